/** Promises 2 to 10, 48 and 49: each refused call, by each exception alone and with those documented behind it. */
public final class RefusedCourseTest {
    private static final int LEAST = Integer.MIN_VALUE;
    private static final int MOST = Integer.MAX_VALUE;
    private static final char[] NO_KINDS = {'c', 'f', 'G', 'a', '-', '/', 0, (char) 127, (char) 65535};

    /** Each number of a hole beyond its range on either side, others as they may be. */
    private static final int[][] NO_HOLES = {{2, 2, 5, 5, 6, 6}, {6, 2, 5, 5, 6, 6}, {LEAST, 2, 5, 5, 6, 6},
        {MOST, 2, 5, 5, 6, 6}, {4, 0, 5, 5, 6, 6}, {4, 10, 5, 5, 6, 6}, {4, LEAST, 5, 5, 6, 6},
        {4, MOST, 5, 5, 6, 6}, {4, 2, -1, 5, 6, 6}, {4, 2, 30, 5, 6, 6}, {4, 2, LEAST, 5, 6, 6},
        {4, 2, MOST, 5, 6, 6}, {4, 2, 5, -1, 6, 6}, {4, 2, 5, 20, 6, 6}, {4, 2, 5, LEAST, 6, 6},
        {4, 2, 5, MOST, 6, 6}, {4, 2, 5, 5, -1, 6}, {4, 2, 5, 5, 30, 6}, {4, 2, 5, 5, LEAST, 6},
        {4, 2, 5, 5, MOST, 6}, {4, 2, 5, 5, 6, -1}, {4, 2, 5, 5, 6, 20}, {4, 2, 5, 5, 6, LEAST},
        {4, 2, 5, 5, 6, MOST}, {4, 2, 5, 5, 5, 5}, {4, 2, 0, 0, 0, 0}, {4, 2, 29, 19, 29, 19}};

    /** Each side of a rectangle beyond its range on either side, and greatest ones less than the least ones. */
    private static final int[][] NO_RECTANGLES = {{-1, 1, 2, 2}, {30, 1, 30, 2}, {LEAST, 1, 2, 2}, {MOST, 1, MOST, 2},
        {1, -1, 2, 2}, {1, 20, 2, 20}, {1, LEAST, 2, 2}, {1, MOST, 2, MOST}, {-1, 1, -1, 2}, {1, 1, 30, 2},
        {LEAST, 1, LEAST, 2}, {1, 1, MOST, 2}, {1, -1, 2, -1}, {1, 1, 2, 20}, {1, LEAST, 2, LEAST},
        {1, 1, 2, MOST}, {2, 1, 1, 2}, {1, 2, 2, 1}, {29, 0, 0, 19}, {0, 19, 29, 0}, {2, 2, 1, 1}};

    public static void main(String[] args) {
        holeOutOfRange();
        holeWhenFull();
        holeWhenBegun();
        holeWithTheSameIndex();
        areaOfNoHole();
        areaOutOfRange();
        areaWhenFull();
        areaWhenBegun();
        kindOfNoCell();
        playerWhenFull();
        playerWhenBegun();
        handicapRefused();
        getsRefused();
        editionRefused();
        beginRefused();
        beginOfAMatchRefused();
        cutAndConditionsRefused();
        Check.end();
    }

    private static void noHoles(String applying, FairwayChancery x) {
        for (int[] h : NO_HOLES) {
            Refused.by(applying, x, "hole", h[0], h[1], h[2], h[3], h[4], h[5]);
        }
    }

    private static void holeOutOfRange() {
        FairwayChancery x = new FairwayChancery();
        noHoles("a", x);
        Check.same("2: nothing was added", x.hole(3, 2, 5, 5, 6, 6), 0);
        noHoles("au", x);
        Check.same("2: nothing was added", x.hole(3, 1, 5, 5, 6, 6), 1);
    }

    private static FairwayChancery full() {
        FairwayChancery x = new FairwayChancery();
        for (int i = 1; i <= 9; i++) {
            x.hole(4, i, 5, 5, 6, 6);
        }
        return x;
    }

    private static void holeWhenFull() {
        FairwayChancery x = full();
        noHoles("asu", x);
        for (int i = 1; i <= 9; i++) {
            Refused.by("su", x, "hole", 4, i, 5, 5, 6, 6);
        }
        Check.bounds("2: no tenth hole", () -> x.kindAt(9, 0, 0));
    }

    private static FairwayChancery begun(boolean isOver) {
        FairwayChancery x = Play.flat(1);
        x.begin('s');
        if (isOver) {
            x.pickUp(0);
            x.nextHole();
        }
        return x;
    }

    private static void holeWhenBegun() {
        for (boolean isOver : new boolean[] {false, true}) {
            FairwayChancery x = begun(isOver);
            Refused.by("s", x, "hole", 4, 2, 5, 5, 6, 6);
            Refused.by("su", x, "hole", 4, 1, 5, 5, 6, 6);
            noHoles("as", x);
            Refused.by("asu", x, "hole", 4, 1, 5, 5, 5, 5);
        }
    }

    private static void holeWithTheSameIndex() {
        FairwayChancery x = new FairwayChancery();
        x.hole(4, 9, 5, 5, 6, 6);
        x.hole(4, 1, 5, 5, 6, 6);
        Refused.by("u", x, "hole", 4, 9, 5, 5, 6, 6);
        Refused.by("u", x, "hole", 3, 1, 0, 0, 29, 19);
        Check.same("2: another index", x.hole(4, 5, 5, 5, 6, 6), 2);
        Refused.by("u", x, "hole", 4, 5, 5, 5, 6, 6);
    }

    private static void areaOfNoHole() {
        FairwayChancery none = new FairwayChancery();
        Refused.by("b", none, "area", 0, 'g', 1, 1, 2, 2);
        Refused.by("ba", none, "area", 0, 'q', 1, 1, 2, 2);
        for (int hole : new int[] {-1, 1, 9, LEAST, MOST}) {
            FairwayChancery x = Play.flat(1);
            Refused.by("b", x, "area", hole, 'g', 1, 1, 2, 2);
            Refused.by("ba", x, "area", hole, 'q', 1, 1, 2, 2);
            Refused.by("ba", x, "area", hole, 'g', -1, 1, 2, 2);
            x.begin('s');
            Refused.by("bs", x, "area", hole, 'g', 1, 1, 2, 2);
            Refused.by("bas", x, "area", hole, 'g', 2, 1, 1, 2);
        }
        Refused.by("b", full(), "area", 9, 'g', 1, 1, 2, 2);
    }

    private static void noAreas(String applying, FairwayChancery x) {
        for (char kind : NO_KINDS) {
            Refused.by(applying, x, "area", 0, kind, 1, 1, 2, 2);
        }
        for (int[] r : NO_RECTANGLES) {
            Refused.by(applying, x, "area", 0, 'g', r[0], r[1], r[2], r[3]);
        }
    }

    private static void areaOutOfRange() {
        FairwayChancery x = Play.flat(1);
        noAreas("a", x);
        Check.same("3: nothing was added", x.area(0, 'g', 1, 1, 1, 1), 1);
    }

    private static void areaWhenFull() {
        FairwayChancery x = Play.flat(1);
        for (int i = 1; i <= 12; i++) {
            Check.same("3: at most 12", x.area(0, 'b', 1, 1, 1, 1), i);
        }
        Refused.by("s", x, "area", 0, 'g', 1, 1, 2, 2);
        noAreas("as", x);
        x.hole(4, 2, 5, 5, 6, 6);
        Check.same("3: 12 on a hole, not on all", x.area(1, 'b', 1, 1, 1, 1), 1);
        Refused.by("s", x, "area", 0, 'g', 1, 1, 2, 2);
    }

    private static void areaWhenBegun() {
        for (boolean isOver : new boolean[] {false, true}) {
            FairwayChancery x = begun(isOver);
            Refused.by("s", x, "area", 0, 'g', 1, 1, 2, 2);
            noAreas("as", x);
        }
    }

    private static void kindOfNoCell() {
        Refused.by("b", new FairwayChancery(), "kindAt", 0, 0, 0);
        FairwayChancery x = Play.flat(0);
        for (int hole : new int[] {-1, 1, LEAST, MOST}) {
            Refused.by("b", x, "kindAt", hole, 0, 0);
        }
        for (int at : new int[] {-1, 30, LEAST, MOST}) {
            Refused.by("b", x, "kindAt", 0, at, 0);
        }
        for (int at : new int[] {-1, 20, LEAST, MOST}) {
            Refused.by("b", x, "kindAt", 0, 0, at);
        }
        Refused.by("b", x, "kindAt", 0, -1, 20);
        Refused.by("b", x, "kindAt", 0, 30, -1);
        Refused.by("b", full(), "kindAt", 9, 0, 0);
    }

    private static void playerWhenFull() {
        FairwayChancery x = Play.flat(6);
        Refused.by("s", x, "player");
        Refused.by("s", x, "player");
        Check.bounds("5: nobody was added", () -> x.isOut(6));
    }

    private static void playerWhenBegun() {
        for (boolean isOver : new boolean[] {false, true}) {
            FairwayChancery x = begun(isOver);
            Refused.by("s", x, "player");
            Check.bounds("5: nobody was added", () -> x.isOut(1));
        }
        FairwayChancery x = Play.flat(6);
        x.begin('s');
        Refused.by("s", x, "player");
    }

    private static void handicapRefused() {
        Refused.by("b", Play.flat(0), "setHandicap", 0, 5);
        FairwayChancery x = Play.flat(2);
        x.setHandicap(1, 7);
        for (String when : new String[] {"", "s"}) {
            for (int player : new int[] {-1, 2, LEAST, MOST}) {
                Refused.by("b" + when, x, "setHandicap", player, 5);
                Refused.by("ba" + when, x, "setHandicap", player, 37);
            }
            for (int handicap : new int[] {-1, 37, LEAST, MOST}) {
                Refused.by("a" + when, x, "setHandicap", 1, handicap);
            }
            if (when.isEmpty()) {
                x.begin('s');
            }
        }
        Refused.by("s", x, "setHandicap", 1, 7);
        x.suspend(true);
        Refused.by("s", x, "setHandicap", 0, 0);
        x.pickUp(0);
        x.pickUp(1);
        Refused.by("s", x, "setHandicap", 1, 5);
        x.nextHole();
        Check.same("6: the round is over", x.setHandicap(1, 5), 7);
        x.begin('m');
        Refused.by("s", x, "setHandicap", 1, 5);
    }

    private static void getsRefused() {
        Refused.by("b", Play.flat(0), "gets", 0, 0);
        FairwayChancery none = new FairwayChancery();
        none.player();
        Refused.by("b", none, "gets", 0, 0);
        FairwayChancery x = Play.flat(1);
        for (int no : new int[] {-1, 1, LEAST, MOST}) {
            Refused.by("b", x, "gets", no, 0);
            Refused.by("b", x, "gets", 0, no);
            Refused.by("b", x, "gets", no, no);
        }
    }

    private static void editionRefused() {
        FairwayChancery x = new FairwayChancery();
        for (char no : new char[] {'m', 'p', 'N', 'O', '0', 0, (char) 65535}) {
            Refused.by("a", x, "edition", no);
        }
        x.edition('o');
        Refused.by("a", x, "edition", 'x');
        Check.same("9: nothing changed", x.edition('n'), 'o');
    }

    private static void noFormats(String applying, FairwayChancery x) {
        for (char no : new char[] {'l', 'n', 'r', 't', 'M', 'S', 0, (char) 65535}) {
            Refused.by(applying, x, "begin", no);
        }
    }

    private static void beginRefused() {
        FairwayChancery none = new FairwayChancery();
        FairwayChancery noHoles = new FairwayChancery();
        noHoles.player();
        FairwayChancery noPlayers = Play.flat(0);
        for (FairwayChancery x : new FairwayChancery[] {none, noHoles, noPlayers}) {
            Refused.by("u", x, "begin", 's');
            Refused.by("u", x, "begin", 'm');
            noFormats("au", x);
        }
        noFormats("a", Play.flat(2));
        noFormats("au", Play.flat(3));
        FairwayChancery on = Play.shortHoles(2, 2);
        on.begin('s');
        Refused.by("u", on, "begin", 's');
        Refused.by("u", on, "begin", 'm');
        noFormats("au", on);
        Play.holeOut(on, 1, 1);
        Play.holeWith(on, 0, 1);
        Play.holeWith(on, 1, 1);
        Refused.by("u", on, "begin", 's');
        on.nextHole();
        noFormats("a", on);
        Check.same("10: not on any more", on.begin('s'), 2);
    }

    private static void beginOfAMatchRefused() {
        for (int players : new int[] {1, 3, 4, 5, 6}) {
            FairwayChancery x = Play.flat(players);
            Refused.by("u", x, "begin", 'm');
            Check.same("10: but strokes", x.begin('s'), 1);
        }
        FairwayChancery two = Play.flat(2);
        Check.same("10: just two", two.begin('m'), 1);
        two.concede(0, 'm');
        Refused.by("u", two, "begin", 'm');
        two.pickUp(0);
        two.pickUp(1);
        Refused.by("u", two, "begin", 's');
        two.nextHole();
        Check.same("10: over", two.begin('m'), 1);
    }

    private static void cutAndConditionsRefused() {
        FairwayChancery x = Play.flat(1);
        for (int no : new int[] {0, 7, -1, LEAST, MOST}) {
            Refused.by("a", x, "cut", no);
        }
        x.conditions(2);
        for (int no : new int[] {-2, 4, LEAST, MOST}) {
            Refused.by("a", x, "conditions", no);
        }
        Check.same("49: nothing changed", x.conditions(0), 2);
    }
}
