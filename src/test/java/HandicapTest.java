import java.util.ArrayList;
import java.util.Collections;
import java.util.List;

/** Promises 49 to 53 and 57: conditions, posted cards, differences and indexes. */
public final class HandicapTest {
    public static void main(String[] args) {
        conditions();
        posts();
        postsAtMost();
        postsRefused();
        roundedDown();
        differences();
        means();
        takenOff();
        lowIndexes();
        bounds();
        longRuns();
        Check.end();
    }

    private static void conditions() {
        FairwayChancery x = new FairwayChancery();
        Check.same("49: 0 at first", x.conditions(3), 0);
        Check.same("49: the ones before", x.conditions(-1), 3);
        Check.argument("49: too low", () -> x.conditions(-2));
        Check.argument("49: too high", () -> x.conditions(4));
        Check.same("49: nothing changed", x.conditions(0), -1);
    }

    /** One player's round of one hole, par 4, holed by 1 stroke and written as this score, then signed. */
    private static void card(FairwayChancery x, int score) {
        x.begin('s');
        Play.holeOut(x, 1);
        x.write(0, 0, score);
        x.sign(0);
    }

    /** A player of one hole, par 4, with the handicap 36: up to 42 counts. */
    private static FairwayChancery poster() {
        FairwayChancery x = Play.shortHoles(1, 1);
        x.setHandicap(0, 36);
        return x;
    }

    /** A score of 42, the most that counts, and a rating that brings this difference, -380 to 320. */
    private static int bring(FairwayChancery x, int difference) {
        card(x, 42);
        return x.post(0, 420 - difference, 113);
    }

    private static void posts() {
        FairwayChancery x = Play.shortHoles(2, 2);
        x.begin('s');
        Play.holeOut(x, 5, 3);
        Play.holeOut(x, 4, 3);
        x.sign(0);
        x.sign(1);
        Check.same("50: 90 less 100", x.post(0, 100, 113), -10);
        Check.same("50: 60 less 100, and a slope", x.post(1, 100, 55), Math.floorDiv(-40 * 113, 55));
        Check.same("51: kept", x.difference(0, 0), -10);
        Check.same("52: the mean", x.index(0), -10);
        Check.same("53: the least", x.lowIndex(0), -10);
        Check.same("52: each one's own", x.index(1), -83);
        x.begin('s');
        x.conditions(3);
        Play.holeOut(x, 5, 3);
        Play.holeOut(x, 4, 3);
        x.sign(0);
        x.sign(1);
        Check.same("50: less 10 times the conditions", x.post(0, 100, 113), -40);
        x.conditions(-1);
        Check.same("50: less 10 times the conditions", x.post(1, 100, 113), -30);
    }

    private static void postsAtMost() {
        FairwayChancery x = Play.shortHoles(2, 1);
        x.setHandicap(0, 3);
        x.begin('s');
        Play.holeOut(x, 3);
        Play.holeOut(x, 2);
        x.write(0, 0, 9);
        x.write(0, 1, 8);
        x.sign(0);
        Check.same("50: 8 and 7 at most", x.post(0, 100, 113), 50);
        x.begin('s');
        Play.holeOut(x, 3);
        Play.holeOut(x, 2);
        x.write(0, 0, 8);
        x.write(0, 1, 6);
        x.sign(0);
        Check.same("50: just as many", x.post(0, 100, 113), 40);
    }

    private static void postsRefused() {
        FairwayChancery x = Play.shortHoles(1, 1);
        Check.bounds("50: no such player", () -> x.post(1, 0, 0));
        int[][] wrong = {{99, 113}, {801, 113}, {300, 54}, {300, 156}, {300, 0}, {-1, 113}};
        for (int[] w : wrong) {
            Check.argument("50: " + java.util.Arrays.toString(w), () -> x.post(0, w[0], w[1]));
        }
        Check.unsupported("50: no round", () -> x.post(0, 300, 113));
        x.begin('s');
        Play.holeOut(x, 3);
        Check.unsupported("50: not signed", () -> x.post(0, 300, 113));
        x.sign(0);
        Check.same("50: the bounds", x.post(0, 100, 55), Math.floorDiv(-70 * 113, 55));
        Check.unsupported("50: posted", () -> x.post(0, 300, 113));
        Check.argument("50: the range ahead of it", () -> x.post(0, 300, 156));
        x.begin('s');
        Check.unsupported("50: a new round", () -> x.post(0, 300, 113));
        Play.holeOut(x, 3);
        x.sign(0);
        Check.same("50: the bounds", x.post(0, 800, 155), Math.floorDiv(-770 * 113, 155));
        x.begin('s');
        Play.holeOut(x, 3);
        x.write(0, 0, 2);
        x.sign(0);
        Check.unsupported("50: out", () -> x.post(0, 300, 113));
        Check.bounds("51: nothing more is kept", () -> x.difference(0, 2));
    }

    private static void roundedDown() {
        FairwayChancery x = poster();
        card(x, 42);
        Check.same("50: 20 times 113 by 112", x.post(0, 400, 112), 20);
        card(x, 42);
        Check.same("50: -20 times 113 by 112", x.post(0, 440, 112), -21);
        FairwayChancery y = poster();
        for (int difference : new int[] {10, -5, -6, 100, 100, 100}) {
            bring(y, difference);
        }
        // The lowest 2 of six are -6 and -5.
        Check.same("52: the mean of -11 by 2", y.index(0), -6);
        FairwayChancery z = poster();
        for (int difference : new int[] {10, 5, 6, 100, 100, 100}) {
            bring(z, difference);
        }
        Check.same("52: the mean of 11 by 2", z.index(0), 5);
    }

    private static void differences() {
        FairwayChancery x = poster();
        for (int player : new int[] {1, -1, 6, Integer.MAX_VALUE}) {
            Check.bounds("51: no such player", () -> x.difference(player, 0));
            Check.bounds("50: no such player", () -> x.post(player, 300, 113));
            Check.bounds("52: no such player", () -> x.index(player));
            Check.bounds("53: no such player", () -> x.lowIndex(player));
        }
        Check.bounds("51: none", () -> x.difference(0, 0));
        Check.bounds("52: no such player", () -> x.index(1));
        Check.bounds("53: no such player", () -> x.lowIndex(-1));
        Check.missing("52: nothing was posted", () -> x.index(0));
        Check.missing("53: nothing was posted", () -> x.lowIndex(0));
        for (int i = 0; i < 23; i++) {
            Check.same("50: the difference", bring(x, 100 + i), 100 + i);
            if (i == 0 || i == 18 || i == 22) {
                Check.same("51: how many are kept", kept(x), Math.min(20, i + 1));
            }
        }
        for (int i = 0; i < 20; i++) {
            Check.same("51: the last 20, from the oldest", x.difference(0, i), 103 + i);
        }
        Check.bounds("51: below 0", () -> x.difference(0, -1));
        Check.bounds("51: above", () -> x.difference(0, 20));
    }

    private static int kept(FairwayChancery x) {
        for (int i = 0; i < 30; i++) {
            try {
                x.difference(0, i);
            } catch (IndexOutOfBoundsException e) {
                return i;
            }
        }
        return 30;
    }

    /** Differences that rise, so that the lowest ones are the first ones, and no bound is met. */
    private static void means() {
        FairwayChancery x = poster();
        int[] counts = {1, 1, 1, 1, 1, 2, 2, 2, 3, 3, 3, 4, 4, 4, 5, 5, 6, 6, 7, 8};
        int[] order = {7, 3, 1, 0, 12, 5, 2, 9, 14, 4, 11, 19, 6, 8, 17, 10, 13, 18, 15, 16};
        List<Integer> all = new ArrayList<>();
        for (int i = 0; i < 20; i++) {
            int difference = 50 + 2 * order[i];
            bring(x, difference);
            all.add(difference);
            Check.same("52: of " + (i + 1), x.index(0), mean(all, counts[i]));
            Check.yes("57: of " + (i + 1), x.isSound());
        }
        for (int i = 0; i < 10; i++) {
            bring(x, 60 + i % 3);
            all.add(60 + i % 3);
            all.remove(0);
            Check.same("52: of the last 20, like ones too", x.index(0), mean(all, 8));
        }
    }

    private static int mean(List<Integer> all, int count) {
        List<Integer> sorted = new ArrayList<>(all);
        Collections.sort(sorted);
        int sum = 0;
        for (int i = 0; i < count; i++) {
            sum += sorted.get(i);
        }
        return Math.floorDiv(sum, count);
    }

    private static void takenOff() {
        FairwayChancery x = poster();
        bring(x, 200);
        bring(x, 131);
        Check.same("51: 69 below, nothing is taken off", x.difference(0, 0), 200);
        Check.same("52: the lowest", x.index(0), 131);
        FairwayChancery y = poster();
        bring(y, 200);
        Check.same("50: ahead of what is taken off", bring(y, 130), 130);
        Check.same("51: 70 below, 10 off", y.difference(0, 0), 190);
        Check.same("51: itself too", y.difference(0, 1), 120);
        Check.same("52: the lowest", y.index(0), 120);
        FairwayChancery z = poster();
        bring(z, 200);
        bring(z, 101);
        Check.same("51: 99 below, 10 off", z.difference(0, 0), 190);
        FairwayChancery w = poster();
        bring(w, 200);
        bring(w, 100);
        Check.same("51: 100 below, 20 off", w.difference(0, 0), 180);
        Check.same("51: itself too", w.difference(0, 1), 80);
        Check.same("53: the least", w.lowIndex(0), 80);
        bring(w, -20);
        Check.same("51: once more", w.difference(0, 0), 160);
        Check.same("51: once more", w.difference(0, 2), -40);
        Check.same("50: the first one has no index ahead of it", bring(poster(), -300), -300);
        FairwayChancery v = poster();
        bring(v, -300);
        Check.same("51: nothing is taken off", v.difference(0, 0), -300);
    }

    private static void lowIndexes() {
        FairwayChancery x = poster();
        bring(x, 100);
        bring(x, 90);
        Check.same("53: the least", x.lowIndex(0), 90);
        for (int i = 0; i < 4; i++) {
            bring(x, 110);
        }
        // 90 and 100 are the lowest 2 of six.
        Check.same("52: higher again", x.index(0), 95);
        Check.same("53: still the least", x.lowIndex(0), 90);
    }

    /** One low difference that leaves the last 20 lets the index rise up to the bounds. */
    private static void bounds() {
        rise(130, 130);
        rise(131, 130);
        rise(132, 131);
        rise(133, 131);
        rise(135, 132);
        rise(170, 150);
        rise(171, 150);
        rise(300, 150);
    }

    /** The index is 100 at first, the low index too; all others then are of this height. */
    private static void rise(int height, int due) {
        FairwayChancery x = poster();
        bring(x, 100);
        for (int i = 0; i < 20; i++) {
            bring(x, height);
        }
        Check.same("52: from 100 to " + height, x.index(0), due);
        Check.same("53: from 100 to " + height, x.lowIndex(0), 100);
        Check.yes("57: from 100 to " + height, x.isSound());
    }

    private static void longRuns() {
        FairwayChancery x = poster();
        for (int i = 0; i < 60; i++) {
            bring(x, (i * 7919) % 300 - 50);
            Check.yes("57: sound", x.isSound());
            Check.yes("53: at most the index", x.lowIndex(0) <= x.index(0));
            Check.yes("52: within the bounds", x.index(0) <= x.lowIndex(0) + 50);
        }
    }
}
