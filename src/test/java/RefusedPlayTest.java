/** Promises 11 to 34: each refused call of a round, by each exception alone and with those documented behind it. */
public final class RefusedPlayTest {
    private static final int LEAST = Integer.MIN_VALUE;
    private static final int MOST = Integer.MAX_VALUE;
    private static final int[] NO_PLAYERS = {-1, 2, 6, LEAST, MOST};
    private static final int[][] NO_CELLS = {{-1, 10}, {30, 10}, {LEAST, 10}, {MOST, 10}, {10, -1}, {10, 20},
        {10, LEAST}, {10, MOST}, {-1, -1}, {30, 20}};

    /** All calls about a player of the round that is on, with arguments that are in range. */
    private static final Object[][] OF_A_PLAYER = {{"stroke", 0, 10, 10}, {"odds", 0, 10, 10, '.'},
        {"provisional", 0, 10, 10}, {"search", 0}, {"again", 0}, {"line", 0, 1}, {"aside", 0, 10, 10},
        {"point", 0, true}, {"free", 0, 10, 10}, {"wrongPlace", 0, 10, 10}, {"correct", 0}, {"move", 0, 'e', 10, 10},
        {"wrongBall", 0, 1}, {"pickUp", 0}, {"cancel", 0}, {"concede", 0, 'm'}, {"state", 0}, {"lie", 0, true},
        {"strokes", 0}, {"penalties", 0}};

    public static void main(String[] args) {
        withoutARound();
        noPlayers();
        noCells();
        noKinds();
        noTimes();
        noCauses();
        noThings();
        whileSuspended();
        allElseWhileSuspended();
        awayWhenAllAreDone();
        strokes();
        aims();
        provisionals();
        searches();
        agains();
        nextHoles();
        lies();
        cancels();
        concessions();
        Check.end();
    }

    /** No round, one that is over, and with them all that is documented ahead of it. */
    private static FairwayChancery[] withoutRounds() {
        FairwayChancery over = Play.flat(2);
        over.begin('s');
        endRound(over);
        FairwayChancery match = Play.flat(2);
        match.begin('m');
        match.suspend(true);
        endRound(match);
        return new FairwayChancery[] {Play.flat(2), over, match};
    }

    private static void endRound(FairwayChancery x) {
        x.pickUp(0);
        x.pickUp(1);
        x.nextHole();
    }

    private static Object[] of(Object[] call) {
        return java.util.Arrays.copyOfRange(call, 1, call.length);
    }

    private static void withoutARound() {
        for (FairwayChancery x : withoutRounds()) {
            for (Object[] call : OF_A_PLAYER) {
                Refused.by("s", x, (String) call[0], of(call));
            }
            Refused.by("s", x, "holeOn");
            Refused.by("s", x, "away");
            Refused.by("s", x, "suspend", true);
            Refused.by("s", x, "suspend", false);
            Refused.by("s", x, "nextHole");
            Refused.by("su", x, "wrongBall", 0, 0);
            Refused.by("s", x, "concede", 0, 's');
            Refused.by("s", x, "concede", 0, 'h');
        }
        Refused.by("su", Play.flat(2), "cancel", 0);
        Refused.by("su", Play.flat(1), "concede", 0, 'm');
    }

    private static void noPlayers() {
        FairwayChancery on = Play.flat(2);
        on.begin('s');
        FairwayChancery[] all = withoutRounds();
        for (Object[] call : OF_A_PLAYER) {
            Object[] args = of(call);
            for (int player : NO_PLAYERS) {
                args[0] = player;
                Refused.by("b", on, (String) call[0], args);
                for (FairwayChancery x : all) {
                    Refused.by("bs", x, (String) call[0], args);
                }
            }
            args[0] = 0;
            Refused.by("bs", new FairwayChancery(), (String) call[0], args);
        }
        for (int player : NO_PLAYERS) {
            Refused.by("ba", on, "odds", player, 10, 10, 'q');
            Refused.by("ba", on, "line", player, 0);
            Refused.by("ba", on, "move", player, 'q', 10, 10);
            Refused.by("bau", on, "concede", player, 'q');
            Refused.by("b", on, "wrongBall", 0, player);
            Refused.by("bu", on, "wrongBall", player, player);
            Refused.by("bs", all[0], "wrongBall", 0, player);
            Refused.by("bu", on, "stroke", player, 10, 20);
        }
    }

    private static void noCells() {
        FairwayChancery on = Play.flat(2);
        on.begin('s');
        FairwayChancery[] all = withoutRounds();
        for (int[] c : NO_CELLS) {
            for (String name : new String[] {"stroke", "provisional", "aside", "free", "wrongPlace"}) {
                Refused.by("b", on, name, 0, c[0], c[1]);
                Refused.by("b", on, name, 2, c[0], c[1]);
                for (FairwayChancery x : all) {
                    Refused.by("bs", x, name, 0, c[0], c[1]);
                }
            }
            Refused.by("b", on, "odds", 0, c[0], c[1], '.');
            Refused.by("ba", on, "odds", 0, c[0], c[1], 'q');
            Refused.by("bas", all[0], "odds", 0, c[0], c[1], 'q');
        }
        on.suspend(true);
        for (int[] c : NO_CELLS) {
            Refused.by("bs", on, "stroke", 0, c[0], c[1]);
            Refused.by("bsu", on, "provisional", 0, c[0], c[1]);
        }
    }

    private static void noKinds() {
        FairwayChancery on = Play.flat(2);
        on.begin('s');
        for (char kind : new char[] {'n', 'l', 's', 'x', 'h', 'u', 'C', 'F', 'q', 0, (char) 65535}) {
            Refused.by("a", on, "odds", 0, 10, 10, kind);
            Refused.by("au", on, "odds", 0, 3, 10, kind);
            Refused.by("au", on, "odds", 0, 29, 10, kind);
            for (FairwayChancery x : withoutRounds()) {
                Refused.by("as", x, "odds", 0, 10, 10, kind);
            }
        }
    }

    private static void noTimes() {
        FairwayChancery on = Play.flat(2);
        on.begin('s');
        Play.to(on, 1, 13, 10);
        for (int times : new int[] {0, 10, -1, LEAST, MOST}) {
            Refused.by("au", on, "line", 0, times);
            Refused.by("a", on, "line", 1, times);
            for (FairwayChancery x : withoutRounds()) {
                Refused.by("as", x, "line", 0, times);
            }
        }
    }

    private static void noCauses() {
        FairwayChancery on = Play.flat(2);
        on.begin('s');
        Play.to(on, 1, 13, 10);
        for (char by : new char[] {'o', 'n', 's', 'W', 'E', 0, (char) 65535}) {
            Refused.by("au", on, "move", 0, by, 10, 10);
            Refused.by("a", on, "move", 1, by, 10, 10);
            Refused.by("au", on, "move", 1, by, -1, 99);
            for (FairwayChancery x : withoutRounds()) {
                Refused.by("as", x, "move", 0, by, 10, 10);
            }
        }
    }

    private static void noThings() {
        FairwayChancery on = Play.flat(2);
        on.begin('m');
        FairwayChancery strokes = Play.flat(2);
        strokes.begin('s');
        for (char what : new char[] {'l', 'u', 'S', 'H', 'M', 0, (char) 65535}) {
            Refused.by("a", on, "concede", 0, what);
            Refused.by("au", strokes, "concede", 0, what);
            for (FairwayChancery x : withoutRounds()) {
                Refused.by("as", x, "concede", 1, what);
            }
        }
    }

    /** No stroke, provisional ball or search, till it is resumed, on the next hole too. */
    private static void whileSuspended() {
        FairwayChancery x = Play.shortHoles(2, 2);
        x.begin('s');
        Play.to(x, 0, 0, 10, 1, -1, 0);
        x.suspend(true);
        refusedWhileSuspended(x);
        Refused.by("s", x, "provisional", 0, 10, 10);
        Refused.by("su", x, "provisional", 0, 3, 10);
        Refused.by("s", x, "search", 0);
        Refused.by("su", x, "stroke", 0, 10, 10);
        x.pickUp(0);
        x.pickUp(1);
        x.nextHole();
        refusedWhileSuspended(x);
        Refused.by("s", x, "stroke", 0, 10, 10);
        Check.yes("27: also on the next hole", x.suspend(false));
        Check.same("13: resumed", Play.to(x, 1, 10, 10), 'l');
    }

    private static void refusedWhileSuspended(FairwayChancery x) {
        Refused.by("s", x, "stroke", 1, 10, 10);
        Refused.by("su", x, "stroke", 1, 3, 10);
        Refused.by("su", x, "stroke", 1, 29, 10);
        Refused.by("bs", x, "stroke", 2, 10, 10);
        Refused.by("su", x, "provisional", 1, 10, 10);
        Refused.by("su", x, "search", 1);
        Refused.by("bs", x, "provisional", -1, 10, 10);
        Refused.by("bs", x, "search", 2);
    }

    /** No call but a stroke, a provisional ball and a search is refused because play is suspended. */
    private static void allElseWhileSuspended() {
        FairwayChancery x = Play.flat(2);
        x.area(0, 'w', 13, 10, 13, 10);
        x.begin('s');
        Play.to(x, 0, 13, 10);
        Play.to(x, 1, 13, 13);
        x.suspend(true);
        Check.same("11: the hole", x.holeOn(), 0);
        Check.same("12: who plays next", x.away(), 1);
        Check.same("14: the odds", x.odds(0, 14, 10, '.'), 8);
        Check.same("20: the point", x.point(0, false), 9);
        Check.same("21: free", x.free(0, 13, 9), 'w');
        Check.same("18: the line", x.line(1, 1), 2);
        Check.same("19: aside", x.aside(0, 12, 9), 2);
        Check.same("24: moved", x.move(0, 'w', 13, 11), 2);
        Check.same("25: a wrong ball", x.wrongBall(1, 0), 4);
        Check.yes("22: a wrong place", x.wrongPlace(0, 24, 10));
        Check.yes("27: resumed", x.suspend(false));
        Play.to(x, 0, 24, 11);
        Check.no("27: suspended", x.suspend(true));
        Check.same("23: corrected", x.correct(0), 4);
        Check.same("17: again", x.again(0), 5);
        Check.same("31: the state", x.state(0), 'l');
        Check.same("32: the tee", x.lie(0, true), 3);
        Check.same("33: strokes", x.strokes(0), 1);
        Check.same("34: penalties", x.penalties(0), 4);
        Check.same("26: picked up", x.pickUp(0), 1);
        Check.same("26: picked up", x.pickUp(1), 0);
        Check.same("30: the end", x.nextHole(), 1);
        x.begin('m');
        Play.to(x, 1, 12, 12);
        x.suspend(true);
        Check.yes("28: cancelled", x.cancel(1));
        Check.same("29: conceded", x.concede(0, 'm'), 0);
        Check.same("29: conceded", x.concede(0, 'h'), -1);
    }

    private static void awayWhenAllAreDone() {
        FairwayChancery x = Play.shortHoles(1, 2);
        x.begin('s');
        Play.holeWith(x, 0, 1);
        Check.same("12: one is left", x.away(), 1);
        x.pickUp(1);
        Refused.by("n", x, "away");
        Check.same("30: all are done", x.nextHole(), 1);
    }

    /** Balls in each state but n and l: sought, lost, holed, picked up. */
    private static FairwayChancery allStates(int player) {
        FairwayChancery x = Play.shortHoles(1, 6);
        x.begin('s');
        Play.to(x, 0, 0, 10, 1, -1, 0);
        Play.to(x, 1, 0, 10, 1, -1, 0);
        x.search(1);
        Play.holeWith(x, 2, 1);
        x.pickUp(3);
        Play.to(x, 4, 8, 10);
        Check.same("31: the state", x.state(player), "sxhuln".charAt(player));
        return x;
    }

    private static void strokes() {
        for (int player = 0; player < 4; player++) {
            FairwayChancery x = allStates(player);
            Refused.by("u", x, "stroke", player, 8, 10);
            Refused.by("u", x, "odds", player, 8, 10, '.');
            Refused.by("au", x, "odds", player, 8, 10, 'l');
            Refused.by("u", x, "line", player, 1);
            Refused.by("u", x, "aside", player, 3, 9);
            Refused.by("u", x, "point", player, true);
            Refused.by("u", x, "free", player, 3, 9);
            Refused.by("u", x, "wrongPlace", player, 3, 9);
            Refused.by("u", x, "correct", player);
            for (char by : new char[] {'p', 'e', 'k', 'w'}) {
                Refused.by("u", x, "move", player, by, 3, 9);
            }
            Refused.by("u", x, "wrongBall", player, 4);
            Refused.by("u", x, "wrongBall", 4, player);
        }
        FairwayChancery begins = allStates(5);
        Refused.by("u", begins, "line", 5, 1);
        Refused.by("u", begins, "aside", 5, 3, 9);
        Refused.by("u", begins, "wrongPlace", 5, 3, 9);
        Refused.by("u", begins, "move", 5, 'w', 3, 9);
        Refused.by("u", begins, "wrongBall", 5, 4);
        Refused.by("u", begins, "wrongBall", 4, 5);
        Refused.by("u", begins, "wrongBall", 5, 5);
        Refused.by("u", begins, "wrongBall", 4, 4);
    }

    private static void aims() {
        FairwayChancery x = Play.flat(1);
        x.begin('s');
        for (int[] aim : new int[][] {{3, 10}, {16, 10}, {15, 11}, {29, 19}}) {
            Refused.by("u", x, "stroke", 0, aim[0], aim[1]);
            Refused.by("u", x, "odds", 0, aim[0], aim[1], 'f');
            Refused.by("au", x, "odds", 0, aim[0], aim[1], 'x');
        }
        Check.same("14: 109 is within 144", x.odds(0, 0, 0, 'f'), 5);
        Play.to(x, 0, 13, 10);
        for (int[] aim : new int[][] {{13, 10}, {24, 10}, {23, 11}, {2, 10}}) {
            Refused.by("u", x, "stroke", 0, aim[0], aim[1]);
            Refused.by("u", x, "odds", 0, aim[0], aim[1], '.');
        }
        Check.same("14: 100 is within 100", x.odds(0, 13, 0, 'f'), 3);
        Check.same("14: the tee is no lie any more", x.odds(0, 3, 10, '.'), 9);
    }

    private static void provisionals() {
        for (int player = 1; player < 6; player++) {
            FairwayChancery x = allStates(player);
            Refused.by("u", x, "provisional", player, 8, 10);
            x.suspend(true);
            Refused.by("su", x, "provisional", player, 8, 10);
        }
        FairwayChancery x = allStates(0);
        Refused.by("u", x, "provisional", 0, 3, 10);
        Refused.by("u", x, "provisional", 0, 15, 11);
        Refused.by("u", x, "provisional", 0, 16, 10);
        x.setSeed(Play.seedFor(1, 0, 0));
        Check.same("15: the first one", x.provisional(0, 15, 10), 'l');
        Refused.by("u", x, "provisional", 0, 14, 10);
        x.suspend(true);
        Refused.by("su", x, "provisional", 0, 14, 10);
        FairwayChancery gone = allStates(0);
        gone.setSeed(Play.seedFor(1, -1, 0));
        Check.same("15: gone", gone.provisional(0, 0, 10), 'g');
        Refused.by("u", gone, "provisional", 0, 14, 10);
        FairwayChancery holed = allStates(0);
        holed.setSeed(Play.seedFor(1, 0, 0));
        Check.same("15: holed", holed.provisional(0, 13, 10), 'h');
        Refused.by("u", holed, "provisional", 0, 14, 10);
    }

    private static void searches() {
        for (int player = 1; player < 6; player++) {
            FairwayChancery x = allStates(player);
            Refused.by("u", x, "search", player);
            x.suspend(true);
            Refused.by("su", x, "search", player);
        }
    }

    private static void agains() {
        for (int player : new int[] {2, 3, 5}) {
            Refused.by("u", allStates(player), "again", player);
        }
        for (int player : new int[] {0, 1, 4}) {
            Check.same("17: in s, x and l", allStates(player).again(player), 2);
        }
    }

    private static void nextHoles() {
        FairwayChancery x = Play.shortHoles(2, 2);
        x.begin('m');
        Refused.by("u", x, "nextHole");
        x.pickUp(1);
        Refused.by("u", x, "nextHole");
        Play.to(x, 0, 8, 10);
        Refused.by("u", x, "nextHole");
        Play.to(x, 0, 0, 10, 1, -1, 0);
        Refused.by("u", x, "nextHole");
        x.search(0);
        x.suspend(true);
        Refused.by("u", x, "nextHole");
        x.pickUp(0);
        Check.same("30: all are done, suspended", x.nextHole(), 1);
        x.concede(0, 'm');
        Refused.by("u", x, "nextHole");
        Check.same("11: still on", x.holeOn(), 1);
    }

    private static void lies() {
        for (int player = 0; player < 4; player++) {
            Refused.by("n", allStates(player), "lie", player, true);
            Refused.by("n", allStates(player), "lie", player, false);
        }
        Check.same("32: it lies", allStates(4).lie(4, true), 8);
        Check.same("32: the tee", allStates(5).lie(5, true), 3);
    }

    private static void cancels() {
        FairwayChancery strokes = Play.flat(2);
        strokes.begin('s');
        Play.to(strokes, 1, 8, 10);
        Refused.by("u", strokes, "cancel", 1);
        FairwayChancery x = Play.flat(2);
        x.begin('m');
        Refused.by("u", x, "cancel", 0);
        Play.to(x, 1, 8, 10);
        Refused.by("u", x, "cancel", 0);
        for (int player : NO_PLAYERS) {
            Refused.by("bu", x, "cancel", player);
        }
        Check.yes("28: by this player", x.cancel(1));
        Refused.by("u", x, "cancel", 1);
    }

    private static void concessions() {
        FairwayChancery strokes = Play.flat(2);
        strokes.begin('s');
        Play.to(strokes, 1, 8, 10);
        for (char what : new char[] {'s', 'h', 'm'}) {
            Refused.by("u", strokes, "concede", 0, what);
            Refused.by("bu", strokes, "concede", 2, what);
        }
        FairwayChancery x = Play.shortHoles(2, 2);
        x.begin('m');
        Refused.by("u", x, "concede", 0, 's');
        Play.to(x, 0, 8, 10);
        Refused.by("u", x, "concede", 0, 's');
        Play.to(x, 1, 0, 10, 1, -1, 0);
        Refused.by("u", x, "concede", 0, 's');
        x.search(1);
        Refused.by("u", x, "concede", 0, 's');
        x.concede(1, 'h');
        Refused.by("u", x, "concede", 0, 's');
        Refused.by("u", x, "concede", 0, 'h');
        Refused.by("u", x, "concede", 1, 'h');
        x.nextHole();
        Check.same("29: on the next hole", x.concede(1, 'h'), 2);
    }
}
