import java.math.BigInteger;

/** Numbers that wrap around, are told without sign, are cut, or are rounded down, below 0 too. */
public final class RoundingTest {
    private static final int[] SEEDS = {0, 1, -1, 2, Integer.MAX_VALUE, Integer.MIN_VALUE, 65535, 65536, -65536, 12345,
        -12345, 1103515245, -1103515245, 0x7fff0000, 0x80010000, 1 << 30, -(1 << 30), 987654321};

    private static final int[] HALVES = {0, 1, 1, 2, 2, 3, 3, 4, 4};
    private static final int[] THIRDS = {0, 0, 1, 1, 1, 2, 2, 2, 3};
    private static final int[] LOWEST = {1, 1, 1, 1, 1, 2, 2, 2, 3, 3, 3, 4, 4, 4, 5, 5, 6, 6, 7, 8};

    /** How many of the first holes of course have a lower index than this one. */
    private static final int[][] LOWER = {{0}, {1, 0}, {1, 0, 2}, {2, 1, 3, 0}, {3, 1, 4, 0, 2}, {4, 2, 5, 0, 3, 1},
        {5, 2, 6, 0, 3, 1, 4}, {6, 2, 7, 0, 4, 1, 5, 3}, {7, 2, 8, 0, 5, 1, 6, 4, 3}};

    public static void main(String[] args) {
        seedsWrapAround();
        drawsWithoutSign();
        searchesWithoutSign();
        strokesOfAHandicap();
        strokesOfADifference();
        halvesAndThirds();
        differencesRoundedDown();
        differencesOfAllSlopes();
        meansRoundedDown();
        halfAboveIsCut();
        checksumWrapsAround();
        sharesAsFloats();
        meansAsDoubles();
        Check.end();
    }

    /** The next z, by numbers that cannot overflow. */
    private static int next(int z) {
        return BigInteger.valueOf(z).multiply(BigInteger.valueOf(1103515245)).add(BigInteger.valueOf(12345)).intValue();
    }

    private static int told(int z, int modulo) {
        long withoutSign = z < 0 ? z + (1L << 32) : z;
        return (int) (withoutSign / 65536 % modulo);
    }

    private static void seedsWrapAround() {
        for (int seed : SEEDS) {
            FairwayChancery x = Play.flat(1);
            x.begin('s');
            Check.same("8: 1 at first", x.setSeed(seed), 1);
            x.stroke(0, 13, 10);
            Check.same("13: z as an int, behind " + seed, x.setSeed(7), next(next(seed)));
            Check.same("8: z", x.setSeed(0), 7);
        }
    }

    private static void drawsWithoutSign() {
        boolean isNegativeSeen = false;
        for (int seed : SEEDS) {
            FairwayChancery x = Play.flat(1);
            x.area(0, 'r', 13, 10, 13, 10);
            x.begin('s');
            x.setSeed(seed);
            x.stroke(0, 10, 5);
            int first = next(seed);
            isNegativeSeen |= first < 0;
            Play.lies(x, 0, 9 + told(first, 3), 4 + told(next(first), 3), "13: modulo 3 of " + seed);
            x.again(0);
            Play.to(x, 0, 13, 10);
            x.setSeed(seed);
            x.stroke(0, 14, 11);
            Play.lies(x, 0, 12 + told(first, 5), 9 + told(next(first), 5), "13: modulo 5 of " + seed);
        }
        Check.yes("13: z below 0 too", isNegativeSeen);
    }

    private static void searchesWithoutSign() {
        for (int seed : SEEDS) {
            FairwayChancery x = Play.flat(1);
            x.area(0, 'd', 13, 10, 13, 10);
            x.begin('s');
            Play.to(x, 0, 13, 10);
            x.setSeed(seed);
            Check.same("16: modulo 4 of " + seed, x.search(0), told(next(seed), 4) == 0 ? 'x' : 'l');
        }
    }

    /** On so many holes, with indexes that are neither in order nor without gaps. */
    private static FairwayChancery course(int holes, int players) {
        int[] indexes = {8, 3, 9, 1, 6, 2, 7, 5, 4};
        FairwayChancery x = new FairwayChancery();
        for (int i = 0; i < holes; i++) {
            x.hole(4, indexes[i], 13, 10, 3, 10);
        }
        for (int i = 0; i < players; i++) {
            x.player();
        }
        return x;
    }

    private static void strokesOfAHandicap() {
        for (int holes = 1; holes <= 9; holes++) {
            FairwayChancery x = course(holes, 1);
            for (int handicap = 0; handicap <= 36; handicap++) {
                x.setHandicap(0, handicap);
                int sum = 0;
                for (int hole = 0; hole < holes; hole++) {
                    int gets = x.gets(0, hole);
                    int whole = handicap / holes;
                    int rest = handicap - whole * holes;
                    Check.same("7: " + handicap + " on " + holes, gets, LOWER[holes - 1][hole] < rest ? whole + 1 : whole);
                    sum += gets;
                }
                Check.same("7: all of the handicap", sum, handicap);
            }
        }
    }

    /** The difference of both is divided, not each handicap. */
    private static void strokesOfADifference() {
        for (int more = 0; more <= 8; more++) {
            FairwayChancery x = course(4, 2);
            x.setHandicap(0, 7 + more);
            x.setHandicap(1, 7);
            x.begin('m');
            int up = 0;
            for (int hole = 0; hole < 4; hole++) {
                Play.holeOut(x, 2, 1);
                int gets = more / 4 + (LOWER[3][hole] < more % 4 ? 1 : 0);
                up += Integer.compare(gets, 1);
                Check.same("37: a difference of " + more, x.up(), up);
            }
        }
    }

    /** Cards with like sums, each higher by 1 on another hole: the windows tell who is ahead. */
    private static void halvesAndThirds() {
        for (int holes = 2; holes <= 9; holes++) {
            for (int from : new int[] {0, Math.max(0, holes - 6)}) {
                FairwayChancery x = Play.shortHoles(holes, Math.min(6, holes));
                x.begin('s');
                int players = Math.min(6, holes);
                for (int hole = 0; hole < holes; hole++) {
                    int[] scores = new int[players];
                    for (int i = 0; i < players; i++) {
                        scores[i] = i + from == hole ? 2 : 1;
                    }
                    Play.holeOut(x, scores);
                }
                for (int i = 0; i < players; i++) {
                    x.sign(i);
                }
                compareAll(x, holes, players, from);
            }
        }
    }

    private static void compareAll(FairwayChancery x, int holes, int players, int from) {
        for (int i = 0; i < players; i++) {
            for (int k = 0; k < players; k++) {
                boolean isAhead = false;
                boolean isTold = false;
                for (int last : new int[] {HALVES[holes - 1], THIRDS[holes - 1], 1}) {
                    boolean isIn = i + from >= holes - last;
                    boolean isOtherIn = k + from >= holes - last;
                    if (!isTold && isIn != isOtherIn) {
                        isTold = true;
                        isAhead = isOtherIn;
                    }
                }
                Check.yes("47: " + (i + from) + " against " + (k + from) + " of " + holes, x.isAhead(i, k) == isAhead);
                Check.same("46: like sums", x.rank(i), 1);
            }
        }
    }

    private static FairwayChancery poster(int written) {
        FairwayChancery x = Play.shortHoles(1, 1);
        x.setHandicap(0, 36);
        card(x, written);
        return x;
    }

    private static void card(FairwayChancery x, int written) {
        x.begin('s');
        Play.holeOut(x, 1);
        x.write(0, 0, written);
        x.sign(0);
    }

    private static void differencesRoundedDown() {
        // 20 times 113 is 2260, and 2260 by 112 is 20 and 20 by 112.
        Check.same("50: cut above 0", poster(42).post(0, 400, 112), 20);
        Check.same("50: down below 0", poster(38).post(0, 400, 112), -21);
        Check.same("50: just whole", poster(38).post(0, 400, 113), -20);
        Check.same("50: the least", poster(1).post(0, 800, 55), -1624);
        Check.same("50: the greatest", poster(42).post(0, 100, 55), 657);
        Check.same("50: 0", poster(40).post(0, 400, 55), 0);
        // 1 below 0 in tenths is 113 by 114, which is not 0 but -1.
        Check.same("50: near 0", poster(40).post(0, 401, 114), -1);
        Check.same("50: near 0", poster(40).post(0, 399, 114), 0);
        FairwayChancery x = poster(40);
        x.conditions(3);
        Check.same("50: rounded ahead of the conditions", x.post(0, 401, 114), -31);
        FairwayChancery y = poster(40);
        y.conditions(-1);
        Check.same("50: rounded ahead of the conditions", y.post(0, 401, 114), 9);
    }

    private static void differencesOfAllSlopes() {
        for (int slope = 55; slope <= 155; slope++) {
            for (int rating : new int[] {100, 399, 401, 417, 599, 800}) {
                long product = (400 - rating) * 113L;
                long due = product / slope;
                if (due * slope > product) {
                    due--;
                }
                Check.same("50: " + rating + " and " + slope, poster(40).post(0, rating, slope), due);
            }
        }
    }

    private static int bring(FairwayChancery x, int difference) {
        card(x, 42);
        return x.post(0, 420 - difference, 113);
    }

    /** The lowest ones are -10 but for one of -11: their mean is no whole number, and goes down to -11. */
    private static void meansRoundedDown() {
        for (int sign = -1; sign <= 1; sign += 2) {
            FairwayChancery x = Play.shortHoles(1, 1);
            x.setHandicap(0, 36);
            bring(x, sign < 0 ? -11 : 11);
            Check.same("52: of 1", x.index(0), sign < 0 ? -11 : 11);
            for (int i = 1; i < 20; i++) {
                bring(x, sign < 0 ? -10 : 10);
                int due = sign > 0 ? 10 : LOWEST[i] == 1 ? -11 : Math.floorDiv(-10 * LOWEST[i] - 1, LOWEST[i]);
                Check.same("52: of " + (i + 1), x.index(0), due);
                Check.same("53: of " + (i + 1), x.lowIndex(0), sign < 0 ? -11 : 10);
            }
            bring(x, sign < 0 ? -10 : 10);
            Check.same("52: it has left", x.index(0), sign < 0 ? -10 : 10);
        }
        FairwayChancery zero = Play.shortHoles(1, 1);
        zero.setHandicap(0, 36);
        for (int difference : new int[] {-1, 0, 0, 0, 0, 0}) {
            bring(zero, difference);
        }
        Check.same("52: half below 0", zero.index(0), -1);
    }

    /** The index is -20 at first; what is more than 30 above it counts half, cut. */
    private static void halfAboveIsCut() {
        for (int above = 28; above <= 74; above++) {
            FairwayChancery x = Play.shortHoles(1, 1);
            x.setHandicap(0, 36);
            bring(x, -20);
            for (int i = 0; i < 20; i++) {
                bring(x, above - 20);
            }
            int due = above <= 30 ? above : above >= 70 ? 50 : 30 + (above - 30) / 2;
            Check.same("52: " + above + " above", x.index(0), due - 20);
        }
    }

    private static void checksumWrapsAround() {
        FairwayChancery x = Play.shortHoles(9, 0);
        String kinds = "gbdyrwpo.";
        for (int i = 0; i < 9; i++) {
            x.area(i, kinds.charAt(i), i, i, 29 - i, 19 - i);
        }
        BigInteger due = BigInteger.valueOf(7);
        for (int i = 0; i < 9; i++) {
            for (int y = 0; y < 20; y++) {
                for (int cell = 0; cell < 30; cell++) {
                    boolean isIn = cell >= i && cell <= 29 - i && y >= i && y <= 19 - i;
                    due = due.multiply(BigInteger.valueOf(31)).add(BigInteger.valueOf(isIn ? kinds.charAt(i) : '.'));
                }
            }
        }
        Check.same("54: as a long", x.checksum(), due.longValue());
        Check.same("54: again", x.checksum(), due.longValue());
    }

    /** A third, a seventh and the like are told as floats, not as doubles. */
    private static void sharesAsFloats() {
        for (int penalties = 0; penalties <= 9; penalties++) {
            FairwayChancery x = Play.shortHoles(1, 1);
            x.begin('s');
            Play.to(x, 0, 12, 12);
            for (int i = 0; i < penalties; i++) {
                x.move(0, 'p', 0, 0);
            }
            Play.to(x, 0, 13, 10);
            x.nextHole();
            Check.same("55: of " + (penalties + 2), x.penaltyShare(0), (float) penalties / (float) (penalties + 2));
        }
    }

    private static void meansAsDoubles() {
        int[][] all = {{1, 1, 2}, {1, 2, 2}, {3, 3, 4, 1, 2, 2}, {5, 1, 1, 1, 1, 1}, {7, 2, 0, 2}};
        for (int[] scores : all) {
            FairwayChancery x = Play.shortHoles(1, scores.length);
            x.begin('s');
            Play.holeOut(x, scores);
            int sum = 0;
            int count = 0;
            for (int score : scores) {
                sum += score;
                count += score > 0 ? 1 : 0;
            }
            Check.same("56: of " + count, x.meanScore(0), (double) sum / (double) count);
        }
    }
}
