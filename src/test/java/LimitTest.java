/** The least and the greatest value that each sentence of the document allows, and the next ones beyond. */
public final class LimitTest {
    private static final String KINDS = ".gbdyrwpo";
    private static final String OUTCOMES = KINDS + "cf";

    public static void main(String[] args) {
        holes();
        areas();
        handicaps();
        reachOfEachKind();
        spreadOfEachKind();
        spreadOnTheGreen();
        drawsOfEachSpread();
        edgesOfTheCells();
        besideTheCup();
        searchNumbers();
        asideOnAllCells();
        lineOnAllTimes();
        lineByTheGreatestDivisors();
        kindsOfCells();
        freeOnAllCells();
        quarters();
        farthestOfSeveral();
        moreHolesThanAreLeft();
        writtenScores();
        stablefordAndPar();
        cutsAndRanks();
        postedNumbers();
        mostThatCounts();
        takenOff();
        aboveTheLowIndex();
        Check.end();
    }

    private static int far(int x, int y, int otherX, int otherY) {
        return (x - otherX) * (x - otherX) + (y - otherY) * (y - otherY);
    }

    private static void holes() {
        FairwayChancery x = new FairwayChancery();
        Check.same("2: par 3, index 1, the least x and y of the cup", x.hole(3, 1, 0, 0, 1, 0), 0);
        Check.same("2: par 5, index 9, the greatest x and y of the cup", x.hole(5, 9, 29, 19, 29, 18), 1);
        Check.same("2: the least x and y of the tee", x.hole(4, 2, 1, 1, 0, 0), 2);
        Check.same("2: the greatest x and y of the tee", x.hole(4, 8, 28, 19, 29, 19), 3);
        x.player();
        x.begin('s');
        int[][] tees = {{1, 0}, {29, 18}, {0, 0}, {29, 19}};
        for (int[] tee : tees) {
            Check.same("32: the tee's x", x.lie(0, true), tee[0]);
            Check.same("32: the tee's y", x.lie(0, false), tee[1]);
            x.pickUp(0);
            x.nextHole();
        }
        int[] points = {0, 2, 1, 1};
        int sum = 0;
        for (int i = 0; i < 4; i++) {
            sum += points[i];
            x.write(0, i, 5);
            Check.same("2: the par", x.stableford(0), sum);
        }
    }

    /** Both ends are included, the next cells beyond them are not. */
    private static void areas() {
        int[][] all = {{0, 0, 0, 0}, {29, 19, 29, 19}, {0, 0, 29, 19}, {29, 0, 29, 19}, {0, 19, 29, 19}, {5, 6, 8, 7},
            {0, 5, 0, 5}, {5, 0, 5, 0}};
        for (int[] a : all) {
            FairwayChancery x = Play.flat(0);
            Check.same("3: an area", x.area(0, 'b', a[0], a[1], a[2], a[3]), 1);
            for (int y : new int[] {a[1] - 1, a[1], a[3], a[3] + 1}) {
                for (int cell : new int[] {a[0] - 1, a[0], a[2], a[2] + 1}) {
                    isInArea(x, cell, y, cell >= a[0] && cell <= a[2] && y >= a[1] && y <= a[3]);
                }
            }
        }
    }

    private static void isInArea(FairwayChancery x, int cell, int y, boolean isIn) {
        if (cell < 0 || cell > 29 || y < 0 || y > 19) {
            Refused.by("b", x, "kindAt", 0, cell, y);
        } else {
            Check.same("3: both ends included, " + cell + ", " + y, x.kindAt(0, cell, y), isIn ? 'b' : '.');
        }
    }

    private static void handicaps() {
        FairwayChancery x = Play.flat(1);
        Check.same("6: the greatest", x.setHandicap(0, 36), 0);
        Check.same("7: all on one hole", x.gets(0, 0), 36);
        Check.same("6: the least", x.setHandicap(0, 0), 36);
        Check.same("7: none", x.gets(0, 0), 0);
        Check.same("6: 1", x.setHandicap(0, 1), 0);
        Check.same("7: 1", x.gets(0, 0), 1);
    }

    /** A ball at 15, 10 on this kind, played there from the tee at 10, 10; the cup is at 29, 19. */
    private static FairwayChancery on(char kind) {
        FairwayChancery x = new FairwayChancery();
        x.hole(4, 1, 29, 19, 10, 10);
        x.area(0, kind, 15, 10, 15, 10);
        x.player();
        x.begin('s');
        Play.to(x, 0, 15, 10);
        if (kind == 'd') {
            Play.search(x, 0, false);
        }
        return x;
    }

    private static FairwayChancery teeOn(char kind) {
        FairwayChancery x = new FairwayChancery();
        x.hole(4, 1, 29, 19, 15, 10);
        x.area(0, kind, 15, 10, 15, 10);
        x.player();
        x.begin('s');
        return x;
    }

    private static void reachOfEachKind() {
        for (char kind : KINDS.toCharArray()) {
            int reach = kind == 'g' ? 6 : kind == 'b' ? 5 : "dyr".indexOf(kind) >= 0 ? 4 : 10;
            for (int half = 0; half < 2; half++) {
                if (kind != 'o') {
                    aims("13: from " + kind, on(kind), reach, half);
                }
                aims("13: from the tee on " + kind, teeOn(kind), 12, half);
            }
        }
    }

    /** All aims of one half of the cells, so that an object is asked less than 512 times. */
    private static void aims(String what, FairwayChancery x, int reach, int half) {
        for (int y = 10 * half; y < 10 * half + 10; y++) {
            for (int cell = 0; cell < 30; cell++) {
                int far = far(cell, y, 15, 10);
                boolean isAllowed = far > 0 && far <= reach * reach;
                boolean isAnswered = true;
                try {
                    x.odds(0, cell, y, 'g');
                } catch (UnsupportedOperationException e) {
                    isAnswered = false;
                }
                Check.yes(what + " to " + cell + ", " + y, isAnswered == isAllowed);
            }
        }
    }

    private static int pairs(FairwayChancery x, int aimX, int aimY) {
        int sum = 0;
        for (char kind : OUTCOMES.toCharArray()) {
            sum += x.odds(0, aimX, aimY, kind);
        }
        return sum;
    }

    /** The pairs of draws in all: 9 with the spread 1, 25 with the spread 2. */
    private static void spreadOfEachKind() {
        for (char kind : KINDS.toCharArray()) {
            Check.same("13: the tee, whatever its kind: " + kind, pairs(teeOn(kind), 16, 10), 9);
            if (kind != 'g' && kind != 'o') {
                Check.same("13: from " + kind, pairs(on(kind), 16, 10), "dyr".indexOf(kind) >= 0 ? 25 : 9);
                Check.same("13: from " + kind, pairs(on(kind), 15, 14), "dyr".indexOf(kind) >= 0 ? 25 : 9);
            }
        }
    }

    private static void spreadOnTheGreen() {
        FairwayChancery x = on('g');
        int[][] aims = {{16, 10}, {17, 12}, {12, 10}, {15, 7}, {16, 13}, {14, 7}, {18, 10}, {17, 13}, {21, 10}};
        for (int[] aim : aims) {
            int far = far(aim[0], aim[1], 15, 10);
            Check.same("13: from g to a distance of " + far, pairs(x, aim[0], aim[1]), far <= 9 ? 1 : 9);
        }
        x.setSeed(99);
        x.stroke(0, 18, 10);
        Check.same("13: nothing is drawn at 9", x.setSeed(99), 99);
        FairwayChancery y = on('g');
        y.setSeed(99);
        y.stroke(0, 16, 13);
        Check.same("13: two draws at 10", y.setSeed(99), Play.next(Play.next(99)));
    }

    /** Each pair of draws, from the least to the greatest, with both spreads, from the tee too. */
    private static void drawsOfEachSpread() {
        for (int spread = 1; spread <= 2; spread++) {
            for (int dx = -spread; dx <= spread; dx++) {
                for (int dy = -spread; dy <= spread; dy++) {
                    FairwayChancery x = on(spread == 1 ? 'p' : 'r');
                    Play.to(x, 0, 17, 11, spread, dx, dy);
                    Play.lies(x, 0, 17 + dx, 11 + dy, "13: the draws " + dx + ", " + dy);
                    FairwayChancery tee = teeOn('r');
                    if (spread == 1) {
                        Play.to(tee, 0, 17, 11, spread, dx, dy);
                        Play.lies(tee, 0, 17 + dx, 11 + dy, "13: the draws " + dx + ", " + dy);
                    }
                }
            }
        }
    }

    /** The last cell of each edge is a cell, the next one is off. */
    private static void edgesOfTheCells() {
        int[][] edges = {{0, 9, -1, 0}, {29, 9, 1, 0}, {9, 0, 0, -1}, {9, 19, 0, 1}, {0, 0, -1, 0}, {0, 0, 0, -1},
            {29, 19, 1, 0}, {29, 19, 0, 1}, {0, 19, -1, 1}, {29, 0, 1, -1}};
        for (int[] e : edges) {
            for (int off = 0; off <= 1; off++) {
                FairwayChancery x = new FairwayChancery();
                int teeX = e[0] < 15 ? e[0] + 5 : e[0] - 5;
                int teeY = e[1] < 10 ? e[1] + 5 : e[1] - 5;
                x.hole(4, 1, 15, 9, teeX, teeY);
                x.player();
                x.begin('s');
                Play.to(x, 0, e[0], e[1], 1, off * e[2], off * e[3]);
                if (off == 0) {
                    Play.lies(x, 0, e[0], e[1], "13: at the edge");
                } else {
                    Check.same("13: off the edge", x.state(0), 's');
                    Check.same("16: out there", x.search(0), 'x');
                }
            }
        }
    }

    private static void besideTheCup() {
        for (int dx = -1; dx <= 1; dx++) {
            for (int dy = -1; dy <= 1; dy++) {
                FairwayChancery x = Play.shortHoles(1, 1);
                x.begin('s');
                Play.to(x, 0, 13, 10, 1, dx, dy);
                Check.same("13: the cup alone", x.state(0), dx == 0 && dy == 0 ? 'h' : 'l');
            }
        }
    }

    /** Of the numbers 0 to 3 that are told, 0 alone loses the ball. */
    private static void searchNumbers() {
        boolean[] seen = new boolean[4];
        for (int seed = 0; seed < 40; seed++) {
            FairwayChancery x = Play.flat(1);
            x.area(0, 'd', 13, 10, 13, 10);
            x.begin('s');
            Play.to(x, 0, 13, 10);
            x.setSeed(seed);
            int told = Play.told(Play.next(seed), 4);
            seen[told] = true;
            Check.same("16: the number " + told, x.search(0), told == 0 ? 'x' : 'l');
            Check.same("16: one draw", x.setSeed(1), Play.next(seed));
        }
        Check.yes("16: all numbers", seen[0] && seen[1] && seen[2] && seen[3]);
    }

    private static void asideOnAllCells() {
        int[][] lies = {{13, 10}, {14, 6}, {14, 14}, {3, 0}};
        for (int[] lie : lies) {
            for (int y = Math.max(0, lie[1] - 3); y <= lie[1] + 3; y++) {
                for (int cell = lie[0] - 3; cell <= lie[0] + 3; cell++) {
                    FairwayChancery x = Play.flat(1);
                    x.begin('s');
                    Play.to(x, 0, lie[0], lie[1]);
                    boolean isAllowed = far(cell, y, lie[0], lie[1]) <= 4
                            && far(cell, y, 25, 10) >= far(lie[0], lie[1], 25, 10);
                    if (isAllowed) {
                        Check.same("19: to " + cell + ", " + y, x.aside(0, cell, y), 2);
                        Play.lies(x, 0, cell, y, "19: aside");
                    } else {
                        Refused.by("u", x, "aside", 0, cell, y);
                    }
                }
            }
        }
    }

    /** The lies differ from the cup by 12 and 0, 8 and 4, 5 and 3, 1 and 4, 2 and 2: each step is told behind it. */
    private static void lineOnAllTimes() {
        int[][] lies = {{13, 10, 1, 0}, {17, 6, 2, 1}, {20, 7, 5, 3}, {24, 6, 1, 4}, {23, 12, 1, -1}, {25, 7, 0, 1}};
        for (int[] lie : lies) {
            line(25, 10, 16, 8, lie);
        }
    }

    /** Divisors from 20 up to 29, the greatest that there can be, to both sides, and 19 upwards. */
    private static void lineByTheGreatestDivisors() {
        for (int x = 0; x <= 9; x++) {
            line(29, 10, 5, 8, new int[] {x, 10, 1, 0});
            line(0, 10, 24, 12, new int[] {29 - x, 10, -1, 0});
        }
        for (int y = 0; y <= 9; y++) {
            line(5, 19, 8, 6, new int[] {5, y, 0, 1});
            line(5, 0, 8, 13, new int[] {5, 19 - y, 0, -1});
        }
        // 28 and 14 by 14, 29 and 19 by 1.
        line(29, 16, 5, 4, new int[] {1, 2, 2, 1});
        line(29, 19, 5, 4, new int[] {0, 0, 29, 19});
    }

    private static void line(int cupX, int cupY, int teeX, int teeY, int[] lie) {
        for (int times = 1; times <= 9; times++) {
            FairwayChancery x = new FairwayChancery();
            x.hole(4, 1, cupX, cupY, teeX, teeY);
            x.player();
            x.begin('s');
            Play.to(x, 0, lie[0], lie[1]);
            int cell = lie[0] - times * lie[2];
            int y = lie[1] - times * lie[3];
            if (cell >= 0 && cell < 30 && y >= 0 && y < 20) {
                Check.same("18: " + times + " times", x.line(0, times), 2);
                Play.lies(x, 0, cell, y, "18: " + times + " times");
            } else {
                Refused.by("u", x, "line", 0, times);
            }
        }
    }

    /** Which kinds each way of coming to a cell allows; the cup is refused though it be of any kind. */
    private static void kindsOfCells() {
        for (char kind : KINDS.toCharArray()) {
            boolean isOpen = kind != 'o';
            boolean isOpenForPenalty = isOpen && kind != 'y' && kind != 'r';
            comes(kind, isOpenForPenalty, "line", 0, 1);
            comes(kind, isOpenForPenalty, "aside", 0, 22, 10);
            comes(kind, isOpen, "wrongPlace", 0, 22, 10);
            comes(kind, isOpen, "move", 0, 'w', 22, 10);
            comes(kind, false, "aside", 0, 25, 10);
            comes(kind, false, "wrongPlace", 0, 25, 10);
            comes(kind, false, "move", 0, 'w', 25, 10);
            comes(kind, false, "free", 0, 25, 10);
        }
    }

    /** A ball at 23, 10, beside 22, 10, with this kind there and in the cup at 25, 10. */
    private static void comes(char kind, boolean isAllowed, String name, Object... args) {
        FairwayChancery x = new FairwayChancery();
        x.hole(4, 1, 25, 10, 20, 5);
        x.area(0, kind, 22, 10, 22, 10);
        x.area(0, kind, 25, 10, 25, 10);
        x.area(0, 'w', 23, 10, 23, 10);
        x.player();
        x.begin('s');
        Play.to(x, 0, 23, 10);
        if (isAllowed) {
            String answer = Driver.answer(x, Driver.ours(name), args);
            Check.no(name + " to " + kind + " answered " + answer, answer.startsWith("throws."));
            Play.lies(x, 0, 22, 10, name + " to " + kind);
        } else {
            Refused.by("u", x, name, args);
        }
    }

    private static void freeOnAllCells() {
        for (int y = 6; y <= 12; y++) {
            for (int cell = 8; cell <= 16; cell++) {
                FairwayChancery x = Play.flat(1);
                x.area(0, 'w', 12, 9, 13, 11);
                x.area(0, 'g', 13, 8, 13, 8);
                x.begin('s');
                Play.to(x, 0, 13, 10);
                // The point is 11, 10.
                boolean isRepair = cell >= 12 && cell <= 13 && y >= 9 && y <= 11;
                boolean isAllowed = far(cell, y, 11, 10) <= 1 && !isRepair && far(cell, y, 25, 10) >= 196;
                if (isAllowed) {
                    Check.same("21: to " + cell + ", " + y, x.free(0, cell, y), 'w');
                    Play.lies(x, 0, cell, y, "21: free");
                } else {
                    Refused.by("u", x, "free", 0, cell, y);
                }
            }
        }
    }

    /** Serious is less than a quarter: of 144 it is 36, of 145 it is 36 and a quarter, of 4 it is 1, of 5 more. */
    private static void quarters() {
        quarter(13, 10, 19, 10, false);
        quarter(13, 10, 20, 13, true);
        quarter(13, 10, 20, 12, true);
        quarter(13, 11, 19, 10, true);
        quarter(13, 9, 19, 11, false);
        quarter(13, 12, 19, 11, false);
        quarter(13, 12, 19, 10, true);
        FairwayChancery near = Play.shortHoles(1, 1);
        near.begin('s');
        Play.to(near, 0, 11, 10);
        Check.no("22: 1 is a quarter of 4", near.wrongPlace(0, 12, 10));
        FairwayChancery five = Play.shortHoles(1, 1);
        five.begin('s');
        Play.to(five, 0, 11, 11);
        Check.yes("22: 1 is less than a quarter of 5", five.wrongPlace(0, 12, 10));
    }

    private static void quarter(int rightX, int rightY, int wrongX, int wrongY, boolean isSerious) {
        String what = far(wrongX, wrongY, 25, 10) + " against " + far(rightX, rightY, 25, 10);
        FairwayChancery x = Play.flat(1);
        x.begin('s');
        Play.to(x, 0, rightX, rightY);
        Check.yes("22: " + what, x.wrongPlace(0, wrongX, wrongY) == isSerious);
        Play.to(x, 0, wrongX, wrongY + 2);
        x.pickUp(0);
        x.nextHole();
        Check.yes("35: " + what, x.isOut(0) == isSerious);
    }

    /** Of several as far the lowest number; one that is farther by the least plays ahead of it. */
    private static void farthestOfSeveral() {
        FairwayChancery x = Play.flat(3);
        x.begin('s');
        Play.to(x, 0, 13, 10);
        Play.to(x, 1, 13, 11);
        Play.to(x, 2, 13, 9);
        Check.same("12: 145 ahead of 144, the lowest number", x.away(), 1);
        Play.to(x, 1, 20, 10);
        Check.same("12: 145 ahead of 144", x.away(), 2);
        x.pickUp(2);
        Check.same("12: 144", x.away(), 0);
        x.wrongPlace(0, 22, 10);
        Check.same("12: 25 ahead of 9, in a wrong place", x.away(), 1);
        x.pickUp(1);
        Check.same("12: 9", x.away(), 0);
    }

    /** So many holes are won one behind the other, till the match is over, which it is not one hole ahead of it. */
    private static void moreHolesThanAreLeft() {
        for (int holes = 1; holes <= 9; holes++) {
            for (int winner = 0; winner < 2; winner++) {
                FairwayChancery x = Play.shortHoles(holes, 2);
                x.begin('m');
                for (int won = 1; won <= holes; won++) {
                    x.concede(1 - winner, 'h');
                    boolean isOver = won > holes - won;
                    Check.yes("38: " + won + " up of " + holes, x.isMatchOver() == isOver);
                    x.nextHole();
                    Check.yes("38: " + won + " up of " + holes, x.isMatchOver() == isOver);
                    Check.same("37: up", x.up(), winner == 0 ? won : -won);
                }
            }
        }
    }

    private static void writtenScores() {
        FairwayChancery x = Play.shortHoles(1, 1);
        x.begin('s');
        Play.holeOut(x, 2);
        Check.same("39: the least", x.write(0, 0, 1), 2);
        Check.same("39: the greatest", x.write(0, 0, 99), 1);
        Check.same("39: kept", x.write(0, 0, 2), 99);
        Check.yes("40: just as it was", x.sign(0));
    }

    private static void stablefordAndPar() {
        int[] points = {5, 4, 3, 2, 1, 0, 0};
        int[] par = {1, 1, 1, 0, -1, -1, -1};
        FairwayChancery x = Play.shortHoles(1, 1);
        x.begin('s');
        Play.holeOut(x, 1);
        for (int score = 1; score <= 7; score++) {
            x.write(0, 0, score);
            Check.same("42: a score of " + score, x.stableford(0), points[score - 1]);
            Check.same("43: a score of " + score, x.parPlay(0), par[score - 1]);
        }
        x.write(0, 0, 99);
        Check.same("42: at least 0", x.stableford(0), 0);
        x.setHandicap(0, 36);
        x.write(0, 0, 1);
        Check.same("42: a net score of -35", x.stableford(0), 41);
    }

    private static void cutsAndRanks() {
        FairwayChancery x = Play.shortHoles(1, 6);
        x.begin('s');
        Play.holeOut(x, 1, 2, 2, 3, 4, 4);
        int[] ranks = {1, 2, 2, 4, 5, 5};
        for (int i = 0; i < 6; i++) {
            x.sign(i);
        }
        for (int i = 0; i < 6; i++) {
            Check.same("46: 1 more than have less", x.rank(i), ranks[i]);
        }
        int[] made = {1, 3, 3, 4, 6, 6};
        for (int places = 1; places <= 6; places++) {
            Check.same("48: a rank of at most " + places, x.cut(places), made[places - 1]);
        }
    }

    /** One player of one hole, par 4, with the handicap 36: a score of up to 42 counts. */
    private static FairwayChancery poster() {
        FairwayChancery x = Play.shortHoles(1, 1);
        x.setHandicap(0, 36);
        return x;
    }

    private static void card(FairwayChancery x, int score) {
        x.begin('s');
        Play.holeOut(x, 1);
        x.write(0, 0, score);
        x.sign(0);
    }

    private static int bring(FairwayChancery x, int difference) {
        card(x, 42);
        return x.post(0, 420 - difference, 113);
    }

    private static void postedNumbers() {
        int[][] numbers = {{100, 55}, {100, 155}, {800, 55}, {800, 155}};
        for (int[] n : numbers) {
            FairwayChancery x = poster();
            card(x, 42);
            double exact = (420 - n[0]) * 113 / (double) n[1];
            Check.same("50: rating and slope", x.post(0, n[0], n[1]), (long) Math.floor(exact));
        }
        for (int conditions = -1; conditions <= 3; conditions++) {
            FairwayChancery x = poster();
            x.conditions(conditions);
            Check.same("50: the conditions", bring(x, 50), 50 - 10 * conditions);
        }
    }

    /** A hole counts at most its par, 2 and the strokes that one gets. */
    private static void mostThatCounts() {
        for (int handicap : new int[] {0, 1, 36}) {
            for (int more = -1; more <= 1; more++) {
                FairwayChancery x = Play.shortHoles(1, 1);
                x.setHandicap(0, handicap);
                card(x, 6 + handicap + more);
                int counts = 6 + handicap + Math.min(0, more);
                Check.same("50: at most", x.post(0, 100, 113), counts * 10 - 100);
            }
        }
    }

    private static void takenOff() {
        int[][] all = {{69, 0}, {70, 10}, {71, 10}, {99, 10}, {100, 20}, {101, 20}, {-1, 0}, {0, 0}};
        for (int[] a : all) {
            FairwayChancery x = poster();
            bring(x, 200);
            Check.same("50: ahead of what is taken off", bring(x, 200 - a[0]), 200 - a[0]);
            Check.same("51: all that are kept", x.difference(0, 0), 200 - a[1]);
            Check.same("51: itself too", x.difference(0, 1), 200 - a[0] - a[1]);
        }
        takenOffByTheIndex(26, 0);
        takenOffByTheIndex(25, 10);
        takenOffByTheIndex(-4, 10);
        takenOffByTheIndex(-5, 20);
        FairwayChancery first = poster();
        bring(first, -380);
        Check.same("51: the first one has no index ahead of it", first.difference(0, 0), -380);
    }

    /** The index is 95 ahead of it, the low index 90. */
    private static void takenOffByTheIndex(int difference, int off) {
        FairwayChancery x = poster();
        for (int i = 0; i < 6; i++) {
            bring(x, i == 1 ? 90 : 100);
        }
        Check.same("52: the mean", x.index(0), 95);
        Check.same("53: the low index", x.lowIndex(0), 90);
        bring(x, difference);
        Check.same("51: by the index, not the low index", x.difference(0, 0), 100 - off);
        Check.same("51: itself too", x.difference(0, 6), difference - off);
    }

    /** The index ahead is 100, the low index too; twenty differences of this height then make the index. */
    private static void aboveTheLowIndex() {
        int[][] all = {{129, 129}, {130, 130}, {131, 130}, {132, 131}, {133, 131}, {169, 149}, {170, 150}, {171, 150},
            {172, 150}, {320, 150}};
        for (int[] a : all) {
            FairwayChancery x = poster();
            bring(x, 100);
            for (int i = 0; i < 19; i++) {
                bring(x, a[0]);
            }
            // The first one is kept still, and is one of the lowest eight.
            int mean = Math.floorDiv(100 + 7 * a[0], 8);
            int above = mean - 100;
            int due = above <= 30 ? mean : Math.min(150, 130 + (above - 30) / 2);
            Check.same("52: with the first one", x.index(0), due);
            bring(x, a[0]);
            Check.same("52: " + (a[0] - 100) + " above the low index", x.index(0), a[1]);
            Check.same("53: the low index", x.lowIndex(0), 100);
        }
    }
}
