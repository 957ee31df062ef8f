/** Promises 35 to 56: each refused call about cards, points, ranks and handicaps, by each exception. */
public final class RefusedCardTest {
    private static final int LEAST = Integer.MIN_VALUE;
    private static final int MOST = Integer.MAX_VALUE;
    private static final int[] NONE = {-1, 3, 6, 9, LEAST, MOST};

    public static void main(String[] args) {
        noPlayers();
        noHoles();
        scores();
        matches();
        writes();
        signs();
        totals();
        roundsNotOver();
        togethers();
        ranks();
        posts();
        differences();
        sharesAndMeans();
        Check.end();
    }

    /** Three players on two holes, with no round, one that is on, and one that is over and signed. */
    private static FairwayChancery[] all() {
        FairwayChancery on = Play.shortHoles(2, 3);
        on.begin('s');
        Play.holeOut(on, 2, 3, 0);
        FairwayChancery over = Play.shortHoles(2, 3);
        over.begin('s');
        Play.holeOut(over, 2, 3, 0);
        Play.holeOut(over, 2, 3, 2);
        over.sign(0);
        return new FairwayChancery[] {Play.shortHoles(2, 3), on, over};
    }

    private static void noPlayers() {
        FairwayChancery[] all = all();
        for (FairwayChancery x : all) {
            for (int player : NONE) {
                for (String name : new String[] {"isOut", "sign", "total", "stableford", "parPlay", "skins", "rank",
                    "index", "lowIndex", "penaltyShare"}) {
                    Refused.by("b", x, name, player);
                }
                Refused.by("b", x, "score", player, 0);
                Refused.by("b", x, "write", player, 0, 5);
                Refused.by("ba", x, "write", player, 0, 100);
                Refused.by("b", x, "together", player, 0);
                Refused.by("b", x, "together", 0, player);
                Refused.by("ba", x, "together", player, player);
                Refused.by("b", x, "isAhead", player, 0);
                Refused.by("b", x, "isAhead", 0, player);
                Refused.by("bn", x, "isAhead", 1, player);
                Refused.by("b", x, "post", player, 300, 113);
                Refused.by("ba", x, "post", player, 99, 156);
                Refused.by("b", x, "difference", player, 0);
            }
        }
        FairwayChancery none = new FairwayChancery();
        Refused.by("b", none, "isOut", 0);
        Refused.by("bn", none, "rank", 0);
        Refused.by("bn", none, "index", 0);
        Refused.by("bm", none, "penaltyShare", 0);
        Refused.by("bu", none, "sign", 0);
        Refused.by("bn", none, "parPlay", 0);
        Refused.by("bu", none, "post", 0, 300, 113);
    }

    private static void noHoles() {
        for (FairwayChancery x : all()) {
            for (int hole : new int[] {-1, 2, 9, LEAST, MOST}) {
                Refused.by("b", x, "score", 0, hole);
                Refused.by("b", x, "write", 1, hole, 5);
                Refused.by("ba", x, "write", 1, hole, 0);
                Refused.by("b", x, "meanScore", hole);
            }
        }
        FairwayChancery none = new FairwayChancery();
        none.player();
        Refused.by("bn", none, "score", 0, 0);
        Refused.by("bau", none, "write", 0, 0, 100);
        Refused.by("bm", none, "meanScore", 0);
    }

    private static void scores() {
        FairwayChancery[] all = all();
        Refused.by("n", all[0], "score", 0, 0);
        Refused.by("n", all[1], "score", 2, 0);
        Refused.by("n", all[1], "score", 0, 1);
        Play.holeWith(all[1], 0, 2);
        Refused.by("n", all[1], "score", 0, 1);
        Refused.by("n", all[2], "score", 2, 0);
        all[2].write(2, 0, 5);
        Refused.by("n", all[2], "score", 2, 0);
        all[2].begin('s');
        Refused.by("n", all[2], "score", 0, 0);
    }

    private static void matches() {
        for (FairwayChancery x : all()) {
            Refused.by("u", x, "up");
            Refused.by("u", x, "isMatchOver");
        }
        FairwayChancery x = Play.flat(2);
        x.begin('m');
        Check.same("37: on", x.up(), 0);
        x.pickUp(0);
        x.pickUp(1);
        x.nextHole();
        Check.yes("38: over", x.isMatchOver());
        x.begin('s');
        Refused.by("u", x, "up");
        Refused.by("u", x, "isMatchOver");
    }

    private static void writes() {
        FairwayChancery[] all = all();
        for (int score : new int[] {0, 100, -1, LEAST, MOST}) {
            Refused.by("au", all[0], "write", 0, 0, score);
            Refused.by("au", all[1], "write", 0, 0, score);
            Refused.by("au", all[2], "write", 0, 0, score);
            Refused.by("a", all[2], "write", 1, 0, score);
        }
        Refused.by("u", all[0], "write", 0, 0, 5);
        Refused.by("u", all[1], "write", 0, 0, 5);
        Refused.by("u", all[1], "write", 0, 1, 5);
        Refused.by("u", all[2], "write", 0, 0, 5);
        Check.same("39: not signed", all[2].write(1, 0, 5), 3);
        all[2].begin('s');
        Refused.by("u", all[2], "write", 1, 0, 5);
    }

    private static void signs() {
        FairwayChancery[] all = all();
        Refused.by("un", all[0], "sign", 0);
        Refused.by("un", all[1], "sign", 0);
        Refused.by("un", all[1], "sign", 2);
        Refused.by("u", all[2], "sign", 0);
        Refused.by("n", all[2], "sign", 2);
        all[2].write(2, 0, 5);
        Refused.by("n", all[2], "sign", 2);
        all[2].write(1, 1, 2);
        Check.no("40: out by it", all[2].sign(1));
        Refused.by("u", all[2], "sign", 1);
        FairwayChancery breach = Play.shortHoles(1, 1);
        breach.begin('s');
        Play.to(breach, 0, 8, 10);
        breach.wrongPlace(0, 12, 10);
        Play.to(breach, 0, 12, 12);
        breach.pickUp(0);
        breach.nextHole();
        Refused.by("un", breach, "sign", 0);
        all[2].begin('s');
        Refused.by("un", all[2], "sign", 2);
    }

    private static void totals() {
        FairwayChancery[] all = all();
        Refused.by("n", all[0], "total", 0);
        Refused.by("n", all[1], "total", 0);
        Refused.by("n", all[2], "total", 2);
        all[2].write(2, 0, 5);
        Check.same("41: written now", all[2].total(2), 7);
        all[2].begin('s');
        Refused.by("n", all[2], "total", 2);
    }

    private static void roundsNotOver() {
        FairwayChancery[] all = all();
        for (String name : new String[] {"parPlay", "skins"}) {
            Refused.by("n", all[0], name, 0);
            Refused.by("n", all[1], name, 0);
            Refused.by("bn", all[1], name, 3);
        }
        all[2].begin('s');
        Refused.by("n", all[2], "parPlay", 0);
        Refused.by("n", all[2], "skins", 0);
    }

    private static void togethers() {
        FairwayChancery[] all = all();
        for (FairwayChancery x : all) {
            for (int player = 0; player < 3; player++) {
                Refused.by("a", x, "together", player, player);
            }
        }
        Refused.by("an", all[0], "together", 1, 1);
        Refused.by("n", all[0], "together", 0, 1);
        Refused.by("n", all[1], "together", 0, 1);
        FairwayChancery none = Play.shortHoles(2, 3);
        none.begin('s');
        Play.holeOut(none, 0, 0, 2);
        Play.holeOut(none, 2, 2, 2);
        Refused.by("n", none, "together", 0, 1);
        Refused.by("n", none, "together", 1, 0);
        Refused.by("an", none, "together", 1, 1);
        Check.same("44: one has", none.together(0, 2), 4);
    }

    private static void ranks() {
        FairwayChancery[] all = all();
        for (FairwayChancery x : new FairwayChancery[] {all[0], all[1]}) {
            Refused.by("n", x, "rank", 0);
            Refused.by("n", x, "isAhead", 0, 1);
        }
        all[2].write(1, 0, 2);
        Refused.by("n", all[2], "rank", 1);
        Refused.by("n", all[2], "isAhead", 0, 1);
        Refused.by("n", all[2], "isAhead", 1, 0);
        Refused.by("n", all[2], "isAhead", 1, 1);
        all[2].sign(1);
        Refused.by("n", all[2], "rank", 1);
        Refused.by("n", all[2], "isAhead", 0, 1);
        Refused.by("n", all[2], "isAhead", 1, 0);
        Refused.by("n", all[2], "rank", 2);
        Check.no("47: oneself", all[2].isAhead(0, 0));
        all[2].begin('s');
        Refused.by("n", all[2], "rank", 0);
        Refused.by("n", all[2], "isAhead", 0, 0);
    }

    private static void posts() {
        FairwayChancery[] all = all();
        int[][] no = {{99, 113}, {801, 113}, {300, 54}, {300, 156}, {LEAST, 113}, {MOST, 113}, {300, LEAST},
            {300, MOST}, {300, 0}, {99, 54}, {801, 156}};
        for (int[] numbers : no) {
            Refused.by("a", all[2], "post", 0, numbers[0], numbers[1]);
            Refused.by("au", all[2], "post", 1, numbers[0], numbers[1]);
            Refused.by("au", all[0], "post", 0, numbers[0], numbers[1]);
            Refused.by("bau", all[2], "post", 3, numbers[0], numbers[1]);
        }
        Refused.by("u", all[0], "post", 0, 300, 113);
        Refused.by("u", all[1], "post", 0, 300, 113);
        Refused.by("u", all[2], "post", 1, 300, 113);
        all[2].write(1, 0, 2);
        all[2].sign(1);
        Refused.by("u", all[2], "post", 1, 300, 113);
        Check.same("50: once", all[2].post(0, 100, 113), -60);
        Refused.by("u", all[2], "post", 0, 100, 113);
        Refused.by("au", all[2], "post", 0, 99, 113);
        all[2].begin('s');
        Refused.by("u", all[2], "post", 0, 100, 113);
    }

    private static void differences() {
        FairwayChancery[] all = all();
        for (FairwayChancery x : all) {
            Refused.by("b", x, "difference", 0, 0);
            Refused.by("n", x, "index", 0);
            Refused.by("n", x, "lowIndex", 0);
        }
        all[2].post(0, 100, 113);
        Check.same("51: one", all[2].difference(0, 0), -60);
        for (int index : new int[] {-1, 1, 19, 20, LEAST, MOST}) {
            Refused.by("b", all[2], "difference", 0, index);
        }
        Refused.by("b", all[2], "difference", 1, 0);
        Refused.by("n", all[2], "index", 1);
        Refused.by("n", all[2], "lowIndex", 1);
    }

    private static void sharesAndMeans() {
        FairwayChancery[] all = all();
        Refused.by("m", all[0], "penaltyShare", 0);
        Refused.by("m", all[0], "meanScore", 0);
        Refused.by("m", all[1], "penaltyShare", 2);
        Refused.by("m", all[1], "meanScore", 1);
        Play.holeWith(all[1], 2, 1);
        Refused.by("m", all[1], "penaltyShare", 2);
        Refused.by("m", all[1], "meanScore", 1);
        FairwayChancery none = Play.shortHoles(1, 2);
        none.begin('s');
        Play.holeOut(none, 0, 0);
        none.write(0, 0, 5);
        Refused.by("m", none, "penaltyShare", 0);
        Refused.by("m", none, "meanScore", 0);
        all[2].begin('s');
        Refused.by("m", all[2], "penaltyShare", 0);
        Refused.by("m", all[2], "meanScore", 0);
    }
}
