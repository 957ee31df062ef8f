/** Courses and strokes whose draws are chosen, by finding a seed that brings them. */
final class Play {
    private Play() {
    }

    static int next(int seed) {
        return seed * 1103515245 + 12345;
    }

    static int told(int seed, int modulo) {
        return (int) ((seed & 0xffffffffL) >> 16) % modulo;
    }

    /** A seed whose next two draws, with this spread, are dx and dy. */
    static int seedFor(int spread, int dx, int dy) {
        int modulo = 2 * spread + 1;
        for (int seed = 1; seed < 1000000; seed++) {
            int first = next(seed);
            if (told(first, modulo) - spread == dx && told(next(first), modulo) - spread == dy) {
                return seed;
            }
        }
        throw new AssertionError("no seed");
    }

    /** A seed whose next draw tells that a ball in deep grass is lost, or found. */
    static int seedForSearch(boolean isLost) {
        for (int seed = 1; seed < 1000000; seed++) {
            if ((told(next(seed), 4) == 0) == isLost) {
                return seed;
            }
        }
        throw new AssertionError("no seed");
    }

    /** One hole, par 4, the cup at 25, 10, the tee at 3, 10, and so many players. */
    static FairwayChancery flat(int players) {
        FairwayChancery x = new FairwayChancery();
        x.hole(4, 1, 25, 10, 3, 10);
        for (int i = 0; i < players; i++) {
            x.player();
        }
        return x;
    }

    /** As many holes with the cup ten cells from the tee, on which a player is holed by one stroke from the tee. */
    static FairwayChancery shortHoles(int holes, int players) {
        FairwayChancery x = new FairwayChancery();
        for (int i = 0; i < holes; i++) {
            x.hole(4, i + 1, 13, 10, 3, 10);
        }
        for (int i = 0; i < players; i++) {
            x.player();
        }
        return x;
    }

    /** A stroke with the spread 1 that lands just where it aims. */
    static char to(FairwayChancery x, int player, int aimX, int aimY) {
        return to(x, player, aimX, aimY, 1, 0, 0);
    }

    static char to(FairwayChancery x, int player, int aimX, int aimY, int spread, int dx, int dy) {
        x.setSeed(seedFor(spread, dx, dy));
        return x.stroke(player, aimX, aimY);
    }

    static char search(FairwayChancery x, int player, boolean isLost) {
        x.setSeed(seedForSearch(isLost));
        return x.search(player);
    }

    /** On a hole of shortHoles: holed with this score, 1 or more, by strokes to and fro beside the cup. */
    static void holeWith(FairwayChancery x, int player, int score) {
        for (int i = 1; i < score; i++) {
            to(x, player, 12, i % 2 == 0 ? 10 : 11);
        }
        to(x, player, 13, 10);
    }

    /** Plays a hole of shortHoles for all players, 0 for a ball that is picked up, and begins the next one. */
    static void holeOut(FairwayChancery x, int... scores) {
        for (int i = 0; i < scores.length; i++) {
            if (scores[i] == 0) {
                x.pickUp(i);
            } else {
                holeWith(x, i, scores[i]);
            }
        }
        x.nextHole();
    }

    static void lies(FairwayChancery x, int player, int dueX, int dueY, String what) {
        Check.same(what + ": state", x.state(player), 'l');
        Check.same(what + ": x", x.lie(player, true), dueX);
        Check.same(what + ": y", x.lie(player, false), dueY);
    }
}
