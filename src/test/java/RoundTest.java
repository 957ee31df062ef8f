/** Promises 10 to 16, 26, 27 and 30 to 34: a round, its order, strokes, sought balls and provisional ones. */
public final class RoundTest {
    public static void main(String[] args) {
        begins();
        beginsAnew();
        holesOn();
        orderByHonour();
        orderByScores();
        orderByDistance();
        orderOfSix();
        strokes();
        strokesRefused();
        reaches();
        spreads();
        landings();
        odds();
        oddsRefused();
        provisionals();
        provisionalReach();
        searches();
        searchesWithProvisional();
        pickUps();
        suspends();
        nextHoles();
        ballsAnew();
        statesOfBalls();
        Check.end();
    }

    private static void begins() {
        FairwayChancery x = new FairwayChancery();
        Check.argument("10: no such format", () -> x.begin('t'));
        Check.argument("10: no such format", () -> x.begin((char) 0));
        x.player();
        Check.unsupported("10: no holes", () -> x.begin('s'));
        FairwayChancery y = new FairwayChancery();
        y.hole(4, 1, 25, 10, 3, 10);
        Check.unsupported("10: no players", () -> y.begin('s'));
        y.player();
        Check.unsupported("10: a match of one", () -> y.begin('m'));
        Check.same("10: a round of one", y.begin('s'), 1);
        Check.unsupported("10: a round is on", () -> y.begin('s'));
        Check.argument("10: the format ahead of it", () -> y.begin('S'));
        Check.unsupported("10: a match of three", () -> Play.flat(3).begin('m'));
        Check.same("10: a match of two", Play.shortHoles(3, 2).begin('m'), 3);
        Check.same("10: a round of six", Play.shortHoles(9, 6).begin('s'), 9);
    }

    private static void beginsAnew() {
        FairwayChancery x = Play.shortHoles(1, 2);
        x.setHandicap(0, 5);
        x.edition('o');
        x.conditions(2);
        x.begin('s');
        x.suspend(true);
        x.suspend(false);
        Play.holeOut(x, 3, 2);
        x.write(0, 0, 2);
        x.sign(0);
        x.sign(1);
        x.post(1, 100, 113);
        int seed = x.setSeed(9);
        x.setSeed(seed);
        Check.yes("10: out ahead", x.isOut(0));
        Check.same("10: begun anew", x.begin('s'), 1);
        Check.no("10: who is out is as at first", x.isOut(0));
        Check.missing("10: no scores", () -> x.score(0, 0));
        Check.missing("10: cards are as at first", () -> x.total(0));
        Check.missing("10: nobody has signed", () -> x.rank(1));
        Check.same("10: nothing is written", x.stableford(1), 0);
        Check.same("10: handicaps stay", x.gets(0, 0), 5);
        Check.same("10: differences stay", x.difference(1, 0), -120 + 20);
        Check.same("10: the index stays", x.index(1), -100);
        Check.same("10: the edition stays", x.edition('n'), 'o');
        Check.same("10: the conditions stay", x.conditions(0), 2);
        Check.same("10: the seed stays", x.setSeed(1), seed);
        Play.holeOut(x, 2, 2);
        Check.yes("10: signed anew", x.sign(1));
        Check.same("10: posted anew", x.post(1, 100, 113), -80);
        x.begin('s');
        x.suspend(true);
        x.pickUp(0);
        x.pickUp(1);
        x.nextHole();
        x.begin('s');
        Check.no("10: not suspended", x.suspend(false));
    }

    private static void holesOn() {
        FairwayChancery x = Play.shortHoles(2, 1);
        Check.state("11: no round", () -> x.holeOn());
        x.begin('s');
        Check.same("11: the first hole", x.holeOn(), 0);
        Play.holeOut(x, 2);
        Check.same("11: the second hole", x.holeOn(), 1);
        Play.holeOut(x, 2);
        Check.state("11: over", () -> x.holeOn());
    }

    private static void orderByHonour() {
        FairwayChancery x = Play.flat(3);
        Check.state("12: no round", () -> x.away());
        x.begin('s');
        Check.same("12: by numbers", x.away(), 0);
        Play.to(x, 1, 14, 10);
        Check.same("12: a ball not begun is first", x.away(), 0);
        Play.to(x, 0, 13, 10);
        Check.same("12: a ball not begun is first", x.away(), 2);
        x.pickUp(2);
        Check.same("12: the farthest", x.away(), 0);
        x.pickUp(0);
        Check.same("12: the one that is left", x.away(), 1);
        x.pickUp(1);
        Check.missing("12: all are done", () -> x.away());
        x.nextHole();
        Check.state("12: over", () -> x.away());
    }

    private static void orderByScores() {
        FairwayChancery x = Play.shortHoles(4, 4);
        x.begin('s');
        Play.holeOut(x, 3, 0, 2, 3);
        order(x, "12: by scores, none last", 2, 0, 3, 1);
        Play.holeOut(x, 2, 2, 2, 2);
        order(x, "12: like ones by the honour of the hole before", 2, 0, 3, 1);
        Play.holeOut(x, 0, 0, 5, 0);
        order(x, "12: all without a score by the honour too", 2, 0, 3, 1);
        Play.holeOut(x, 4, 1, 0, 4);
        x.begin('s');
        order(x, "12: a new round by numbers", 0, 1, 2, 3);
        Play.holeOut(x, 4, 1, 0, 4);
        order(x, "12: by scores", 1, 0, 3, 2);
        Play.holeOut(x, 0, 0, 0, 0);
        order(x, "12: nobody has one", 1, 0, 3, 2);
        Play.holeOut(x, 1, 1, 1, 0);
        order(x, "12: by scores and honour", 1, 0, 2, 3);
    }

    /** The order of those who have not begun, told by letting each play; they are taken back by a new hole. */
    private static void order(FairwayChancery x, String what, int... due) {
        FairwayChancery y = x;
        for (int i = 0; i < due.length; i++) {
            Check.same(what + ", place " + i, y.away(), due[i]);
            Play.to(y, due[i], 12, 9);
        }
        for (int i = 0; i < due.length; i++) {
            y.again(i);
        }
    }

    private static void orderByDistance() {
        FairwayChancery x = Play.flat(3);
        x.setSeed(1);
        x.begin('s');
        Play.to(x, 0, 14, 12);
        Play.to(x, 1, 14, 8);
        Play.to(x, 2, 14, 10);
        Check.same("12: of several the lowest number", x.away(), 0);
        Play.to(x, 0, 20, 10);
        Check.same("12: the farthest", x.away(), 1);
        x.wrongPlace(0, 2, 10);
        Check.same("12: where it lies, in a wrong place too", x.away(), 0);
        x.again(0);
        Check.same("12: at its spot again", x.away(), 0);
        FairwayChancery y = Play.flat(2);
        y.begin('s');
        Play.to(y, 0, 10, 1);
        Play.to(y, 1, 7, 10);
        Check.same("12: 324 against 306", y.away(), 1);
        Play.to(y, 0, 10, 0, 1, 0, -1);
        Check.same("12: sought", y.state(0), 's');
        Check.same("12: sought, its spot is less far", y.away(), 1);
        y.search(0);
        Play.to(y, 1, 12, 2);
        Check.same("12: lost, its spot is farther", y.away(), 0);
    }

    /** As many players as there can be, first not begun, then by distance, then done one behind the other. */
    private static void orderOfSix() {
        FairwayChancery x = Play.flat(6);
        x.begin('s');
        for (int i = 0; i < 6; i++) {
            Check.same("12: not begun, of six", x.away(), i);
            Play.to(x, i, 15 - i, 10);
        }
        for (int i = 5; i >= 0; i--) {
            Check.same("12: the farthest of six", x.away(), i);
            x.pickUp(i);
        }
        Check.missing("12: all six are done", () -> x.away());
    }

    private static void strokes() {
        FairwayChancery x = Play.flat(2);
        x.begin('s');
        Check.same("13: it lies", x.stroke(0, 13, 10), 'l');
        // z is 1103527590, which tells 16838, and then 2524885223, which tells 38526.
        Check.same("13: both draws", x.setSeed(1), (int) 2524885223L);
        Play.lies(x, 0, 13 + 16838 % 3 - 1, 10 + 38526 % 3 - 1, "13: the first one to x");
        Check.same("13: counted", x.strokes(0), 1);
        Check.same("13: nothing else", x.penalties(0), 0);
        Check.same("13: nobody else", x.state(1), 'n');
        for (int dx = -1; dx <= 1; dx++) {
            for (int dy = -1; dy <= 1; dy++) {
                FairwayChancery y = Play.flat(1);
                y.begin('s');
                Play.to(y, 0, 13, 10, 1, dx, dy);
                Play.lies(y, 0, 13 + dx, 10 + dy, "13: by draws");
            }
        }
        FairwayChancery y = Play.flat(1);
        y.begin('s');
        y.setSeed(Integer.MIN_VALUE);
        y.stroke(0, 13, 10);
        int first = Play.next(Integer.MIN_VALUE);
        Play.lies(y, 0, 12 + Play.told(first, 3), 9 + Play.told(Play.next(first), 3), "13: told without sign");
        for (int seed = -300; seed < 300; seed += 7) {
            FairwayChancery z = Play.flat(1);
            z.begin('s');
            z.setSeed(seed);
            z.stroke(0, 13, 10);
            first = Play.next(seed);
            Play.lies(z, 0, 12 + Play.told(first, 3), 9 + Play.told(Play.next(first), 3), "13: seed " + seed);
        }
    }

    private static void strokesRefused() {
        FairwayChancery x = Play.flat(1);
        Check.bounds("13: no such player", () -> x.stroke(1, 10, 10));
        Check.bounds("13: no such cell", () -> x.stroke(0, 30, 10));
        Check.bounds("13: no such cell", () -> x.stroke(0, 10, -1));
        Check.state("13: no round", () -> x.stroke(0, 3, 10));
        x.begin('s');
        Check.bounds("13: no such player", () -> x.stroke(-1, 10, 10));
        Check.bounds("13: no such cell", () -> x.stroke(0, -1, 10));
        Check.bounds("13: no such cell", () -> x.stroke(0, 10, 20));
        Check.unsupported("13: the aim is the tee", () -> x.stroke(0, 3, 10));
        Check.unsupported("13: beyond the reach", () -> x.stroke(0, 16, 10));
        Check.same("13: nothing was drawn", x.setSeed(1), 1);
        Check.same("13: nothing was counted", x.strokes(0), 0);
        x.suspend(true);
        Check.state("13: suspended", () -> x.stroke(0, 3, 10));
        Check.bounds("13: the cell ahead of it", () -> x.stroke(0, 30, 10));
        x.suspend(false);
        Play.to(x, 0, 13, 10);
        Check.unsupported("13: the aim is its lie", () -> x.stroke(0, 13, 10));
        Check.same("13: the tee is no lie any more", Play.to(x, 0, 3, 10), 'l');
        Play.to(x, 0, 0, 10, 1, -1, 0);
        Check.unsupported("13: it is sought", () -> x.stroke(0, 4, 10));
        x.search(0);
        Check.unsupported("13: it is out", () -> x.stroke(0, 4, 10));
        x.pickUp(0);
        Check.unsupported("13: it is picked up", () -> x.stroke(0, 4, 10));
        x.nextHole();
        Check.state("13: over", () -> x.stroke(0, 4, 10));
        FairwayChancery y = Play.shortHoles(1, 1);
        y.begin('s');
        Play.holeWith(y, 0, 1);
        Check.unsupported("13: it is holed", () -> y.stroke(0, 4, 10));
    }

    /** A hole on which a ball comes to 12, 10, a cell of this kind, and is played from there. */
    private static FairwayChancery on(char kind) {
        FairwayChancery x = Play.flat(2);
        x.area(0, kind, 12, 10, 12, 10);
        x.begin('s');
        Play.to(x, 0, 12, 10);
        if (kind == 'd') {
            Play.search(x, 0, false);
        }
        return x;
    }

    private static void reaches() {
        FairwayChancery tee = Play.flat(1);
        tee.begin('s');
        Check.unsupported("13: 145 from the tee", () -> tee.stroke(0, 15, 11));
        Check.same("13: 144 from the tee", Play.to(tee, 0, 15, 10), 'l');
        reach('.', 10);
        reach('w', 10);
        reach('p', 10);
        reach('g', 6);
        reach('b', 5);
        reach('d', 4);
        reach('y', 4);
        reach('r', 4);
        FairwayChancery grass = Play.flat(1);
        grass.area(0, 'd', 3, 10, 3, 10);
        grass.begin('s');
        Check.same("13: the tee, whatever its kind", Play.to(grass, 0, 3, 0, 1, 1, 1), 'l');
        Play.lies(grass, 0, 4, 1, "13: the spread from the tee, whatever its kind");
        FairwayChancery back = Play.flat(1);
        back.begin('s');
        Play.to(back, 0, 6, 10);
        Play.to(back, 0, 3, 10);
        Check.unsupported("13: the tee by a stroke is not the tee", () -> back.stroke(0, 14, 10));
        Check.same("13: but its ground", Play.to(back, 0, 13, 10), 'l');
    }

    private static void reach(char kind, int reach) {
        FairwayChancery x = on(kind);
        Check.unsupported("13: beyond the reach on " + kind, () -> x.stroke(0, 12 + reach, 9));
        Check.unsupported("13: beyond the reach on " + kind, () -> x.stroke(0, 12 + reach + 1, 10));
        x.setSeed(1);
        Check.same("13: the reach on " + kind, x.stroke(0, 12 + reach, 10), 'l');
    }

    private static void spreads() {
        for (char kind : new char[] {'d', 'y', 'r'}) {
            FairwayChancery x = on(kind);
            Play.to(x, 0, 15, 10, 2, 2, -2);
            Play.lies(x, 0, 17, 8, "13: the spread 2 on " + kind);
        }
        for (char kind : new char[] {'.', 'w', 'p', 'b'}) {
            FairwayChancery x = on(kind);
            Play.to(x, 0, 15, 10, 1, 1, -1);
            Play.lies(x, 0, 16, 9, "13: the spread 1 on " + kind);
        }
        FairwayChancery x = on('g');
        x.setSeed(12345);
        Check.same("13: from the green near by", x.stroke(0, 15, 10), 'l');
        Play.lies(x, 0, 15, 10, "13: no spread");
        Check.same("13: nothing is drawn", x.setSeed(1), 12345);
        FairwayChancery y = on('g');
        Play.to(y, 0, 15, 11, 1, 1, 1);
        Play.lies(y, 0, 16, 12, "13: from the green, a distance of 10");
    }

    private static void landings() {
        FairwayChancery x = Play.flat(6);
        x.area(0, 'o', 10, 10, 10, 10);
        x.area(0, 'd', 11, 10, 11, 10);
        x.area(0, 'y', 12, 10, 12, 10);
        x.area(0, 'o', 25, 10, 25, 10);
        x.begin('s');
        Check.same("13: out of bounds", Play.to(x, 0, 10, 10), 's');
        Check.same("13: deep grass", Play.to(x, 1, 11, 10), 's');
        Check.same("13: a penalty area", Play.to(x, 2, 12, 10), 'l');
        Check.same("13: off the cells", Play.to(x, 3, 0, 10, 1, -1, 0), 's');
        Check.missing("32: sought, it lies nowhere", () -> x.lie(3, true));
        Play.to(x, 4, 15, 10);
        Check.same("13: the cup, whatever its kind", Play.to(x, 4, 25, 10), 'h');
        Check.same("13: its strokes", x.strokes(4), 2);
        FairwayChancery y = Play.flat(1);
        y.begin('s');
        Play.to(y, 0, 15, 10);
        Check.same("13: beside the cup", Play.to(y, 0, 25, 10, 1, 0, 1), 'l');
        int[][] edges = {{3, 0, 0, -1}, {0, 10, -1, 0}, {3, 19, 0, 1}};
        for (int[] e : edges) {
            FairwayChancery z = new FairwayChancery();
            z.hole(4, 1, 25, 10, 3, 9 + (e[1] == 19 ? 1 : 0));
            z.player();
            z.begin('s');
            Check.same("13: off an edge", Play.to(z, 0, e[0], e[1], 1, e[2], e[3]), 's');
            Check.same("16: out there", z.search(0), 'x');
        }
        FairwayChancery right = new FairwayChancery();
        right.hole(4, 1, 5, 10, 25, 10);
        right.player();
        right.begin('s');
        Check.same("13: off the right edge", Play.to(right, 0, 29, 5, 1, 1, 0), 's');
    }

    private static void odds() {
        FairwayChancery x = Play.flat(1);
        x.area(0, 'w', 13, 0, 29, 19);
        x.area(0, 'g', 13, 10, 13, 10);
        x.area(0, 'd', 25, 10, 25, 10);
        x.begin('s');
        Check.same("14: ground", x.odds(0, 13, 10, '.'), 3);
        Check.same("14: repair", x.odds(0, 13, 10, 'w'), 5);
        Check.same("14: green", x.odds(0, 13, 10, 'g'), 1);
        Check.same("14: none", x.odds(0, 13, 10, 'b'), 0);
        Check.same("14: off the left edge", x.odds(0, 0, 10, 'f'), 3);
        Check.same("14: off the lower edge", x.odds(0, 3, 0, 'f'), 3);
        Check.same("14: off both edges", x.odds(0, 0, 0, 'f'), 5);
        Check.same("14: the rest", x.odds(0, 0, 0, '.'), 4);
        Check.same("14: nothing is drawn", x.setSeed(1), 1);
        Check.same("14: nothing is counted", x.strokes(0), 0);
        Play.to(x, 0, 15, 10);
        x.suspend(true);
        Check.same("14: the cup", x.odds(0, 25, 10, 'c'), 1);
        Check.same("14: the cup alone", x.odds(0, 25, 10, 'd'), 0);
        Check.same("14: beside the cup, suspended", x.odds(0, 24, 11, 'w'), 8);
        FairwayChancery y = on('g');
        Check.same("14: without a spread", y.odds(0, 15, 10, '.'), 1);
        Check.same("14: without a spread", y.odds(0, 15, 10, 'g'), 0);
        Check.same("14: with a spread", y.odds(0, 16, 10, '.'), 9);
        Check.same("14: with the spread 2", on('y').odds(0, 14, 10, '.'), 24);
        Check.same("14: with the spread 2", on('y').odds(0, 14, 10, 'y'), 1);
    }

    private static void oddsRefused() {
        FairwayChancery x = Play.flat(1);
        Check.bounds("14: no such player", () -> x.odds(1, 10, 10, 'q'));
        Check.bounds("14: no such cell", () -> x.odds(0, 10, 20, 'q'));
        Check.argument("14: no such kind", () -> x.odds(0, 10, 10, 'q'));
        Check.state("14: no round", () -> x.odds(0, 10, 10, '.'));
        x.begin('s');
        for (char kind : ".gbdyrwpocf".toCharArray()) {
            Check.same("14: every kind", x.odds(0, 10, 10, kind), kind == '.' ? 9 : 0);
        }
        Check.argument("14: no such kind", () -> x.odds(0, 3, 10, 'l'));
        Check.unsupported("14: its lie", () -> x.odds(0, 3, 10, '.'));
        Check.unsupported("14: beyond the reach", () -> x.odds(0, 16, 10, '.'));
        Play.to(x, 0, 0, 10, 1, -1, 0);
        Check.unsupported("14: sought", () -> x.odds(0, 10, 10, '.'));
        x.pickUp(0);
        x.nextHole();
        Check.state("14: over", () -> x.odds(0, 10, 10, '.'));
    }

    /** A ball that was played from 12, 10 and is sought off the cells. */
    private static FairwayChancery sought() {
        FairwayChancery x = Play.flat(2);
        x.area(0, 'd', 14, 10, 14, 10);
        x.begin('s');
        Play.to(x, 0, 12, 10);
        Play.to(x, 0, 12, 0, 1, 0, -1);
        return x;
    }

    private static char provisional(FairwayChancery x, int aimX, int aimY, int dx, int dy) {
        x.setSeed(Play.seedFor(1, dx, dy));
        return x.provisional(0, aimX, aimY);
    }

    private static void provisionals() {
        FairwayChancery x = sought();
        Check.bounds("15: no such player", () -> x.provisional(2, 13, 10));
        Check.bounds("15: no such cell", () -> x.provisional(0, 30, 10));
        Check.unsupported("15: not sought", () -> x.provisional(1, 13, 10));
        Check.unsupported("15: its spot", () -> x.provisional(0, 12, 10));
        x.suspend(true);
        Check.state("15: suspended", () -> x.provisional(0, 13, 12));
        x.suspend(false);
        Check.same("15: it lies", provisional(x, 13, 12, 1, -1), 'l');
        Check.same("15: not counted yet", x.strokes(0), 2);
        Check.same("15: still sought", x.state(0), 's');
        Check.unsupported("15: there is one", () -> x.provisional(0, 13, 12));
        Check.same("16: the provisional ball is the ball", x.search(0), 'l');
        Play.lies(x, 0, 14, 11, "15: by draws, too");
        Check.unsupported("15: not sought", () -> x.provisional(0, 13, 10));
        Check.same("15: gone off the cells", provisional(sought(), 12, 0, 0, -1), 'g');
        Check.same("15: gone in deep grass", provisional(sought(), 14, 10, 0, 0), 'g');
        FairwayChancery cup = new FairwayChancery();
        cup.hole(4, 1, 13, 10, 3, 10);
        cup.player();
        cup.begin('s');
        Play.to(cup, 0, 0, 10, 1, -1, 0);
        Check.same("15: holed", provisional(cup, 13, 10, 0, 0), 'h');
        FairwayChancery y = Play.flat(1);
        Check.state("15: no round", () -> y.provisional(0, 13, 10));
        y.begin('s');
        y.pickUp(0);
        y.nextHole();
        Check.state("15: over", () -> y.provisional(0, 13, 10));
    }

    private static void provisionalReach() {
        FairwayChancery x = sought();
        Check.unsupported("15: beyond the reach of there", () -> x.provisional(0, 22, 9));
        Check.same("15: the reach of there", provisional(x, 22, 10, 0, 0), 'l');
        FairwayChancery tee = Play.flat(1);
        tee.begin('s');
        Play.to(tee, 0, 0, 10, 1, -1, 0);
        Check.unsupported("15: beyond the reach of the tee", () -> tee.provisional(0, 15, 11));
        Check.same("15: the reach of the tee", provisional(tee, 15, 10, 1, 1), 'l');
        for (char kind : new char[] {'d', 'g', 'y'}) {
            FairwayChancery on = Play.flat(1);
            on.area(0, kind, 3, 10, 3, 10);
            on.begin('s');
            Play.to(on, 0, 0, 10, 1, -1, 0);
            Check.same("15: the tee, whatever its kind", provisional(on, 3, 13, 1, -1), 'l');
            on.search(0);
            Play.lies(on, 0, 4, 12, "15: the spread of the tee, whatever its kind");
        }
        FairwayChancery red = Play.flat(1);
        red.area(0, 'r', 3, 4, 3, 4);
        red.begin('s');
        Play.to(red, 0, 3, 4);
        Play.to(red, 0, 1, 4, 2, -2, 0);
        Check.unsupported("15: beyond the reach of red", () -> red.provisional(0, 8, 4));
        red.setSeed(Play.seedFor(2, 2, -2));
        Check.same("15: the reach of red", red.provisional(0, 7, 4), 'l');
        red.search(0);
        Play.lies(red, 0, 9, 2, "15: the spread of red");
        FairwayChancery green = Play.flat(1);
        green.area(0, 'g', 1, 10, 1, 10);
        green.begin('s');
        Play.to(green, 0, 1, 10);
        Play.to(green, 0, 0, 6, 1, -1, 0);
        green.setSeed(77);
        green.provisional(0, 4, 10);
        Check.same("15: nothing is drawn on the green", green.setSeed(1), 77);
    }

    private static void searches() {
        FairwayChancery x = Play.flat(3);
        x.area(0, 'o', 10, 10, 10, 10);
        x.area(0, 'd', 11, 10, 11, 10);
        Check.bounds("16: no such player", () -> x.search(3));
        Check.state("16: no round", () -> x.search(0));
        x.begin('s');
        Check.unsupported("16: not begun", () -> x.search(0));
        Play.to(x, 0, 10, 10);
        Play.to(x, 1, 11, 10);
        Play.to(x, 2, 11, 10);
        x.suspend(true);
        Check.state("16: suspended", () -> x.search(0));
        x.suspend(false);
        x.setSeed(44);
        Check.same("16: out", x.search(0), 'x');
        Check.same("16: out without a draw", x.setSeed(1), 44);
        Check.same("16: nothing counts", x.strokes(0) * 10 + x.penalties(0), 10);
        Check.unsupported("16: it is known", () -> x.search(0));
        Check.same("16: lost", Play.search(x, 1, true), 'x');
        Check.missing("32: lost, it lies nowhere", () -> x.lie(1, false));
        Check.same("16: found", Play.search(x, 2, false), 'l');
        Play.lies(x, 2, 11, 10, "16: found");
        Check.same("16: one draw", x.setSeed(1), Play.next(Play.seedForSearch(false)));
        Check.unsupported("16: it lies", () -> x.search(2));
        for (int seed = -40; seed < 40; seed++) {
            FairwayChancery y = Play.flat(1);
            y.area(0, 'd', 11, 10, 11, 10);
            y.begin('s');
            Play.to(y, 0, 11, 10);
            y.setSeed(seed);
            Check.same("16: modulo 4, seed " + seed, y.search(0), Play.told(Play.next(seed), 4) == 0 ? 'x' : 'l');
        }
    }

    private static void searchesWithProvisional() {
        FairwayChancery x = Play.flat(1);
        x.area(0, 'd', 11, 10, 11, 10);
        x.begin('s');
        Play.to(x, 0, 11, 10);
        provisional(x, 12, 12, 0, 0);
        Check.same("16: found", Play.search(x, 0, false), 'l');
        Play.lies(x, 0, 11, 10, "16: the provisional ball is of no meaning");
        Check.same("16: nothing counts", x.strokes(0) * 10 + x.penalties(0), 10);
        Play.to(x, 0, 11, 6, 2, 0, 0);
        Play.to(x, 0, 11, 10);
        Check.same("15: another one, sought again", provisional(x, 12, 12, 0, 0), 'l');
        Check.same("16: lost", Play.search(x, 0, true), 'l');
        Check.same("16: 1 stroke and 1 penalty", x.strokes(0) * 10 + x.penalties(0), 41);
        Play.lies(x, 0, 12, 12, "16: the provisional ball");
        FairwayChancery used = sought();
        provisional(used, 14, 12, 0, 0);
        used.search(0);
        Play.to(used, 0, 14, 10);
        Check.same("15: another one, sought again", provisional(used, 14, 11, 0, 0), 'l');
        Check.same("16: the spot stays", x.again(0), 6);
        Play.lies(x, 0, 11, 6, "16: the spot stays");
        FairwayChancery gone = sought();
        provisional(gone, 12, 0, 0, -1);
        Check.same("16: gone", gone.search(0), 'x');
        Check.same("16: both count all the same", gone.strokes(0) * 10 + gone.penalties(0), 31);
        Check.unsupported("16: known", () -> gone.search(0));
        Check.same("16: the spot stays", gone.again(0), 5);
        Play.lies(gone, 0, 12, 10, "16: the spot stays");
        FairwayChancery cup = Play.shortHoles(1, 1);
        cup.begin('s');
        Play.to(cup, 0, 0, 10, 1, -1, 0);
        provisional(cup, 13, 10, 0, 0);
        Check.same("16: holed", cup.search(0), 'h');
        cup.nextHole();
        Check.same("36: provisional ones count", cup.score(0, 0), 3);
    }

    private static void pickUps() {
        FairwayChancery x = Play.flat(3);
        Check.bounds("26: no such player", () -> x.pickUp(3));
        Check.state("26: no round", () -> x.pickUp(0));
        x.begin('s');
        Check.bounds("26: no such player", () -> x.pickUp(-1));
        x.suspend(true);
        Check.same("26: not begun, suspended", x.pickUp(1), 2);
        x.suspend(false);
        Check.same("26: its state", x.state(1), 'u');
        Check.unsupported("26: done", () -> x.pickUp(1));
        Play.to(x, 0, 0, 10, 1, -1, 0);
        Check.same("26: sought", x.pickUp(0), 1);
        Play.to(x, 2, 10, 10);
        Check.same("26: it lies", x.pickUp(2), 0);
        x.nextHole();
        Check.missing("36: no score", () -> x.score(0, 0));
        Check.state("26: over", () -> x.pickUp(0));
        FairwayChancery y = Play.shortHoles(1, 2);
        y.begin('s');
        Play.holeWith(y, 0, 1);
        Check.unsupported("26: holed", () -> y.pickUp(0));
        Check.same("26: holed is done", y.pickUp(1), 0);
    }

    private static void suspends() {
        FairwayChancery x = Play.shortHoles(2, 1);
        Check.state("27: no round", () -> x.suspend(false));
        x.begin('s');
        Check.no("27: not at first", x.suspend(false));
        Check.no("27: not yet", x.suspend(true));
        Check.yes("27: it was", x.suspend(true));
        x.pickUp(0);
        Check.same("27: the next hole", x.nextHole(), 1);
        Check.state("27: till it is resumed", () -> x.stroke(0, 10, 10));
        Check.yes("27: it was", x.suspend(false));
        Check.same("27: resumed", Play.to(x, 0, 10, 10), 'l');
        x.pickUp(0);
        x.nextHole();
        Check.state("27: over", () -> x.suspend(true));
    }

    private static void nextHoles() {
        FairwayChancery x = Play.shortHoles(3, 2);
        Check.state("30: no round", () -> x.nextHole());
        x.begin('s');
        Check.unsupported("30: nobody is done", () -> x.nextHole());
        x.pickUp(1);
        Check.unsupported("30: somebody is not done", () -> x.nextHole());
        Play.holeWith(x, 0, 2);
        Check.missing("36: not told yet", () -> x.score(0, 0));
        Check.same("30: the second hole", x.nextHole(), 1);
        Check.same("36: told", x.score(0, 0), 2);
        Check.same("30: balls are not begun", x.state(0), 'n');
        Check.same("30: nothing is counted", x.strokes(0) + x.penalties(0), 0);
        Play.to(x, 0, 12, 10);
        Check.same("30: the tee's reach again", Play.to(x, 1, 15, 10), 'l');
        x.pickUp(0);
        x.pickUp(1);
        Check.same("30: the third hole", x.nextHole(), 2);
        x.pickUp(0);
        x.pickUp(1);
        Check.same("30: all holes", x.nextHole(), 3);
        Check.state("30: over", () -> x.nextHole());
    }

    /** Nothing of a ball goes over to the next hole. */
    private static void ballsAnew() {
        FairwayChancery x = Play.shortHoles(2, 2);
        x.begin('s');
        Play.to(x, 0, 0, 10, 1, -1, 0);
        provisional(x, 12, 12, 0, 0);
        x.pickUp(0);
        Play.to(x, 1, 8, 10);
        x.wrongPlace(1, 12, 10);
        x.pickUp(1);
        x.nextHole();
        Check.same("30: 32: the tee", x.lie(0, true), 3);
        Play.to(x, 0, 0, 10, 1, -1, 0);
        Check.same("30: no provisional ball", provisional(x, 12, 12, 0, 0), 'l');
        Play.to(x, 1, 13, 10);
        Check.same("30: no wrong place", x.penalties(1), 0);
        Check.no("35: no breach", x.isOut(1));
    }

    private static void statesOfBalls() {
        FairwayChancery x = Play.flat(2);
        Check.bounds("31: no such player", () -> x.state(2));
        Check.bounds("32: no such player", () -> x.lie(-1, true));
        Check.bounds("33: no such player", () -> x.strokes(2));
        Check.bounds("34: no such player", () -> x.penalties(2));
        Check.state("31: no round", () -> x.state(0));
        Check.state("32: no round", () -> x.lie(0, true));
        Check.state("33: no round", () -> x.strokes(0));
        Check.state("34: no round", () -> x.penalties(0));
        x.begin('s');
        Check.same("31: not begun", x.state(0), 'n');
        Check.same("32: the tee", x.lie(0, true), 3);
        Check.same("32: the tee", x.lie(0, false), 10);
        Play.to(x, 0, 13, 12);
        Play.lies(x, 0, 13, 12, "32: it lies");
        Check.same("33: of this hole", x.strokes(0), 1);
        Check.same("33: of this player", x.strokes(1), 0);
        x.again(0);
        Check.same("34: one penalty", x.penalties(0), 1);
        Check.same("33: no stroke", x.strokes(0), 1);
        x.pickUp(0);
        Check.missing("32: picked up", () -> x.lie(0, true));
        Check.same("31: picked up", x.state(0), 'u');
        Check.same("33: picked up", x.strokes(0), 1);
        x.pickUp(1);
        x.nextHole();
        Check.state("31: over", () -> x.state(0));
        Check.state("32: over", () -> x.lie(0, true));
        Check.state("33: over", () -> x.strokes(0));
        Check.state("34: over", () -> x.penalties(0));
    }
}
