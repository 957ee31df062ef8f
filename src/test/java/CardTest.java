/** Promises 35, 36, 39 to 48, 55 and 56: scores, cards, points and ranks. */
public final class CardTest {
    public static void main(String[] args) {
        scores();
        outs();
        writes();
        writesRefused();
        signs();
        signsRefused();
        totals();
        stablefords();
        parPlays();
        togethers();
        skins();
        ranks();
        countback();
        countbackOfFew();
        cuts();
        penaltyShares();
        meanScores();
        nineHolesOfSix();
        Check.end();
    }

    /** A round of shortHoles (par 4, the index one more than the number), each row the scores of a player. */
    private static FairwayChancery round(int[]... scores) {
        FairwayChancery x = Play.shortHoles(scores[0].length, scores.length);
        x.begin('s');
        play(x, scores);
        return x;
    }

    private static void play(FairwayChancery x, int[]... scores) {
        for (int hole = 0; hole < scores[0].length; hole++) {
            int[] row = new int[scores.length];
            for (int i = 0; i < scores.length; i++) {
                row[i] = scores[i][hole];
            }
            Play.holeOut(x, row);
        }
    }

    private static FairwayChancery signed(int[]... scores) {
        FairwayChancery x = round(scores);
        for (int i = 0; i < scores.length; i++) {
            x.sign(i);
        }
        return x;
    }

    private static void scores() {
        FairwayChancery x = Play.shortHoles(2, 2);
        Check.bounds("36: no such player", () -> x.score(2, 0));
        Check.bounds("36: no such hole", () -> x.score(0, 2));
        Check.bounds("36: no such hole", () -> x.score(0, -1));
        Check.missing("36: no round", () -> x.score(0, 0));
        x.begin('s');
        Play.to(x, 0, 8, 10);
        x.again(0);
        Play.holeWith(x, 0, 2);
        x.pickUp(1);
        Check.missing("36: not told yet", () -> x.score(0, 0));
        x.nextHole();
        Check.same("36: strokes and penalties", x.score(0, 0), 4);
        Check.missing("36: there is none", () -> x.score(1, 0));
        Check.missing("36: not told yet", () -> x.score(0, 1));
        Play.holeOut(x, 1, 3);
        Check.same("36: of the last round", x.score(0, 0), 4);
        Check.same("36: of the last round", x.score(1, 1), 3);
        x.write(0, 0, 9);
        Check.same("36: whatever is written", x.score(0, 0), 4);
    }

    private static void outs() {
        FairwayChancery x = Play.shortHoles(1, 2);
        Check.bounds("35: no such player", () -> x.isOut(2));
        Check.bounds("35: no such player", () -> x.isOut(-1));
        Check.no("35: no round", x.isOut(0));
        x.begin('s');
        Play.to(x, 0, 8, 10);
        x.wrongPlace(0, 12, 10);
        Play.to(x, 0, 13, 10);
        Play.holeWith(x, 1, 2);
        Check.no("35: not yet", x.isOut(0));
        x.nextHole();
        Check.yes("35: a serious breach", x.isOut(0));
        Check.no("35: not the other one", x.isOut(1));
        x.write(1, 0, 1);
        x.sign(1);
        Check.yes("35: a lower score signed for", x.isOut(1));
        x.begin('m');
        Check.no("35: of this round", x.isOut(0));
        Check.no("35: of this round", x.isOut(1));
    }

    private static void writes() {
        FairwayChancery x = round(new int[] {2, 0}, new int[] {3, 4});
        Check.same("39: what was written", x.write(0, 0, 99), 2);
        Check.same("39: what was written", x.write(0, 0, 1), 99);
        Check.same("39: nothing", x.write(0, 1, 5), 0);
        Check.same("39: written now", x.total(0), 6);
        Check.same("39: nobody else's", x.total(1), 7);
        FairwayChancery out = Play.shortHoles(1, 1);
        out.begin('s');
        Play.to(out, 0, 8, 10);
        out.wrongPlace(0, 12, 10);
        Play.to(out, 0, 13, 10);
        out.nextHole();
        Check.same("39: of who is out", out.write(0, 0, 7), 4);
    }

    private static void writesRefused() {
        FairwayChancery x = Play.shortHoles(2, 1);
        Check.bounds("39: no such player", () -> x.write(1, 0, 0));
        Check.bounds("39: no such hole", () -> x.write(0, 2, 0));
        Check.bounds("39: no such hole", () -> x.write(0, -1, 5));
        Check.argument("39: too low", () -> x.write(0, 0, 0));
        Check.argument("39: too high", () -> x.write(0, 0, 100));
        Check.unsupported("39: no round", () -> x.write(0, 0, 5));
        x.begin('s');
        Check.unsupported("39: not over", () -> x.write(0, 0, 5));
        Play.holeOut(x, 2);
        Check.unsupported("39: not over", () -> x.write(0, 0, 5));
        Play.holeOut(x, 2);
        x.sign(0);
        Check.unsupported("39: signed", () -> x.write(0, 0, 5));
        Check.argument("39: the range ahead of it", () -> x.write(0, 0, 100));
        Check.same("39: nothing changed", x.total(0), 4);
    }

    private static void signs() {
        FairwayChancery x = round(new int[] {2, 3}, new int[] {2, 3}, new int[] {2, 3}, new int[] {2, 3});
        Check.yes("40: as it was", x.sign(0));
        Check.no("40: not out", x.isOut(0));
        x.write(1, 1, 4);
        Check.yes("40: a higher one stands", x.sign(1));
        Check.same("40: a higher one stands", x.total(1), 6);
        x.write(2, 1, 2);
        Check.no("40: a lower one", x.sign(2));
        Check.yes("40: out", x.isOut(2));
        Check.unsupported("40: signed, and out", () -> x.sign(2));
        Check.unsupported("39: signed, and out", () -> x.write(2, 1, 3));
        x.write(3, 0, 1);
        x.write(3, 1, 9);
        Check.no("40: a lower one on any hole", x.sign(3));
    }

    private static void signsRefused() {
        FairwayChancery x = Play.shortHoles(2, 2);
        Check.bounds("40: no such player", () -> x.sign(2));
        Check.unsupported("40: no round", () -> x.sign(0));
        x.begin('s');
        Check.unsupported("40: not over", () -> x.sign(0));
        Play.holeOut(x, 2, 2);
        Check.unsupported("40: not over", () -> x.sign(0));
        Play.holeOut(x, 2, 0);
        Check.missing("40: no score on some hole", () -> x.sign(1));
        x.write(1, 1, 5);
        Check.missing("40: whatever is written", () -> x.sign(1));
        Check.same("40: not signed", x.write(1, 1, 6), 5);
        x.sign(0);
        Check.unsupported("40: signed", () -> x.sign(0));
        FairwayChancery first = round(new int[] {0, 2});
        Check.missing("40: no score on the first hole", () -> first.sign(0));
        FairwayChancery y = Play.shortHoles(1, 1);
        y.begin('s');
        Play.to(y, 0, 8, 10);
        y.wrongPlace(0, 12, 10);
        Play.to(y, 0, 12, 12);
        y.pickUp(0);
        y.nextHole();
        Check.unsupported("40: out ahead of no score", () -> y.sign(0));
    }

    private static void totals() {
        FairwayChancery none = new FairwayChancery();
        none.player();
        Check.same("41: no holes at all", none.total(0), 0);
        FairwayChancery x = Play.shortHoles(3, 2);
        Check.bounds("41: no such player", () -> x.total(2));
        Check.missing("41: no round", () -> x.total(0));
        x.begin('s');
        Play.holeOut(x, 2, 1);
        Check.missing("41: for some hole", () -> x.total(0));
        Play.holeOut(x, 0, 1);
        Play.holeOut(x, 5, 1);
        Check.missing("41: for some hole", () -> x.total(0));
        Check.same("41: the sum", x.total(1), 3);
        x.write(0, 1, 99);
        Check.same("41: the sum of what is written", x.total(0), 106);
    }

    private static void stablefords() {
        FairwayChancery x = Play.shortHoles(4, 2);
        Check.bounds("42: no such player", () -> x.stableford(2));
        Check.same("42: nothing is written", x.stableford(0), 0);
        x.setHandicap(1, 6);
        x.begin('s');
        Play.holeOut(x, 3, 0);
        Check.same("42: 2 and the par less the score", x.stableford(0), 3);
        Check.same("42: without a score", x.stableford(1), 0);
        Play.holeOut(x, 7, 7);
        Check.same("42: at least 0", x.stableford(0), 3);
        Check.same("42: 2 strokes", x.stableford(1), 1);
        Play.holeOut(x, 6, 6);
        Check.same("42: just 0", x.stableford(0), 3);
        Check.same("42: 1 stroke", x.stableford(1), 2);
        Play.holeOut(x, 4, 1);
        Check.same("42: the par", x.stableford(0), 5);
        Check.same("42: far below", x.stableford(1), 8);
        x.write(1, 0, 4);
        Check.same("42: what is written", x.stableford(1), 12);
        x.setHandicap(1, 0);
        Check.same("42: by the handicap of now", x.stableford(1), 2 + 0 + 0 + 5);
        x.sign(0);
        Check.same("42: signed or not", x.stableford(0), 5);
        x.begin('s');
        Check.same("42: cards as at first", x.stableford(0), 0);
    }

    private static void parPlays() {
        FairwayChancery x = Play.shortHoles(4, 2);
        Check.bounds("43: no such player", () -> x.parPlay(2));
        Check.missing("43: no round", () -> x.parPlay(0));
        x.setHandicap(1, 5);
        x.begin('s');
        Check.missing("43: not over", () -> x.parPlay(0));
        play(x, new int[] {4, 3, 3, 5}, new int[] {5, 5, 4, 0});
        Check.same("43: 0, 1, 1 and -1", x.parPlay(0), 1);
        Check.same("43: 1, 0, 1 and none", x.parPlay(1), 1);
        x.write(0, 1, 5);
        Check.same("43: what is written", x.parPlay(0), -1);
        x.write(1, 3, 3);
        Check.same("43: what is written", x.parPlay(1), 3);
        x.begin('s');
        Check.missing("43: not over", () -> x.parPlay(0));
        FairwayChancery none = round(new int[] {0, 0, 0});
        Check.same("43: none at all", none.parPlay(0), -3);
    }

    private static void togethers() {
        FairwayChancery x = Play.shortHoles(3, 3);
        Check.bounds("44: no such player", () -> x.together(3, 0));
        Check.bounds("44: no such other player", () -> x.together(0, 3));
        Check.bounds("44: no such other player", () -> x.together(0, -1));
        Check.argument("44: both are the same", () -> x.together(1, 1));
        Check.missing("44: no round", () -> x.together(0, 1));
        x.setHandicap(1, 4);
        x.begin('s');
        play(x, new int[] {3, 4, 0}, new int[] {4, 6, 5}, new int[] {3, 0, 0});
        // Net scores: 3, 4, none; 2, 5, 4; 3, none, none.
        Check.same("44: the lower one on each hole", x.together(0, 1), 2 + 4 + 4);
        Check.same("44: in any order", x.together(1, 0), 2 + 4 + 4);
        Check.same("44: one has none", x.together(2, 1), 2 + 5 + 4);
        Check.missing("44: for both", () -> x.together(0, 2));
        x.write(2, 2, 9);
        Check.same("44: what is written", x.together(0, 2), 3 + 4 + 9);
        x.write(0, 2, 8);
        Check.same("44: what is written", x.together(0, 2), 3 + 4 + 8);
        FairwayChancery none = new FairwayChancery();
        none.player();
        none.player();
        Check.same("44: no holes at all", none.together(0, 1), 0);
    }

    private static void skins() {
        FairwayChancery x = Play.shortHoles(6, 3);
        Check.bounds("45: no such player", () -> x.skins(3));
        Check.missing("45: no round", () -> x.skins(0));
        x.setHandicap(2, 1);
        x.begin('s');
        Check.missing("45: not over", () -> x.skins(0));
        play(x, new int[] {3, 2, 4, 0, 3, 2}, new int[] {3, 3, 4, 0, 2, 2}, new int[] {4, 3, 5, 0, 0, 3});
        Check.same("45: alone, with the one ahead of it", x.skins(0), 2);
        Check.same("45: with two ahead of it", x.skins(1), 3);
        Check.same("45: like ones get none", x.skins(2), 0);
        Check.yes("57: sums of skins", x.isSound());
        x.write(2, 5, 1);
        Check.same("45: what is written", x.skins(2), 1);
        x.write(2, 0, 3);
        Check.same("45: with the strokes that one gets", x.skins(2), 2);
        Check.same("45: none is waiting", x.skins(0), 1);
        x.begin('s');
        Check.missing("45: not over", () -> x.skins(0));
        Check.same("45: alone", round(new int[] {3, 0, 5}).skins(0), 3);
        Check.same("45: three like ones", round(new int[] {3}, new int[] {3}, new int[] {3}).skins(0), 0);
        Check.same("45: two, then a lower one", round(new int[] {3}, new int[] {3}, new int[] {2}).skins(2), 1);
        Check.same("45: a lower one, then two", round(new int[] {2}, new int[] {3}, new int[] {3}).skins(0), 1);
    }

    private static void ranks() {
        FairwayChancery x = round(new int[] {3, 3}, new int[] {2, 3}, new int[] {4, 2}, new int[] {1, 1},
                new int[] {1, 0}, new int[] {9, 9});
        Check.bounds("46: no such player", () -> x.rank(6));
        Check.missing("46: not signed", () -> x.rank(0));
        x.sign(0);
        Check.same("46: alone", x.rank(0), 1);
        x.sign(1);
        x.sign(2);
        x.write(3, 0, 1);
        Check.same("46: one has less", x.rank(0), 2);
        Check.same("46: like ones", x.rank(2), 2);
        Check.same("46: the lowest", x.rank(1), 1);
        x.sign(3);
        Check.same("46: one more", x.rank(1), 2);
        x.sign(5);
        Check.same("46: 1 more than how many have less", x.rank(5), 5);
        Check.missing("46: no card", () -> x.rank(4));
        FairwayChancery y = round(new int[] {3}, new int[] {3});
        y.write(0, 0, 2);
        y.sign(0);
        y.sign(1);
        Check.missing("46: out", () -> y.rank(0));
        Check.same("46: who is out has no rank", y.rank(1), 1);
        FairwayChancery z = round(new int[] {2}, new int[] {3});
        z.write(0, 0, 9);
        z.sign(0);
        z.sign(1);
        Check.same("46: what is written", z.rank(0), 2);
        z.begin('s');
        Check.missing("46: a new round", () -> z.rank(0));
    }

    private static void countback() {
        // Of seven holes the last half is three of them, the last third two.
        FairwayChancery x = signed(new int[] {2, 2, 2, 2, 2, 2, 2}, new int[] {1, 2, 2, 3, 2, 2, 2},
                new int[] {1, 2, 2, 2, 2, 2, 3}, new int[] {2, 2, 2, 2, 3, 2, 1}, new int[] {2, 2, 2, 2, 2, 3, 1});
        Check.no("47: like in all that tells", x.isAhead(0, 1));
        Check.no("47: like in all that tells", x.isAhead(1, 0));
        Check.yes("47: the last half", x.isAhead(0, 2));
        Check.no("47: the last half", x.isAhead(2, 0));
        Check.yes("47: the last third", x.isAhead(3, 0));
        Check.no("47: the last third", x.isAhead(0, 3));
        Check.yes("47: the last hole", x.isAhead(4, 0));
        Check.no("47: the last hole", x.isAhead(0, 4));
        Check.yes("47: the last third ahead of the last hole", x.isAhead(3, 4));
        Check.no("47: oneself", x.isAhead(0, 0));
        FairwayChancery half = signed(new int[] {3, 2, 2, 1, 2, 2, 2}, new int[] {2, 2, 2, 3, 1, 2, 2},
                new int[] {3, 3, 2, 2, 1, 2, 1}, new int[] {2, 2, 3, 3, 1, 1, 2});
        Check.yes("47: the last half, the last third alike", half.isAhead(1, 0));
        Check.no("47: the last half, the last third alike", half.isAhead(0, 1));
        Check.no("47: the last half and third alike", half.isAhead(3, 2));
        Check.yes("47: the last half and third alike", half.isAhead(2, 3));
        FairwayChancery turned = signed(new int[] {3, 2, 2, 2, 1, 2, 2}, new int[] {2, 2, 2, 2, 4, 1, 1});
        Check.yes("47: the last half ahead of the last third", turned.isAhead(0, 1));
        Check.no("47: the last half ahead of the last third", turned.isAhead(1, 0));
        FairwayChancery y = signed(new int[] {1, 1, 1, 1, 1, 1, 4}, new int[] {2, 2, 2, 2, 1, 1, 1});
        Check.yes("47: the sum first", y.isAhead(0, 1));
        Check.no("47: the sum first", y.isAhead(1, 0));
        Check.same("46: no countback in ranks", x.rank(2), 1);
    }

    private static void countbackOfFew() {
        FairwayChancery one = signed(new int[] {2}, new int[] {2}, new int[] {3});
        Check.no("47: one hole", one.isAhead(0, 1));
        Check.yes("47: one hole", one.isAhead(0, 2));
        FairwayChancery two = signed(new int[] {2, 3}, new int[] {3, 2}, new int[] {2, 3});
        Check.yes("47: two holes", two.isAhead(1, 0));
        Check.no("47: two holes", two.isAhead(0, 1));
        FairwayChancery four = signed(new int[] {3, 2, 2, 1}, new int[] {3, 2, 1, 2});
        Check.yes("47: four holes", four.isAhead(0, 1));
        Check.bounds("47: no such player", () -> two.isAhead(3, 0));
        Check.bounds("47: no such other player", () -> two.isAhead(0, 3));
        FairwayChancery y = round(new int[] {3}, new int[] {3}, new int[] {3});
        y.sign(0);
        y.write(2, 0, 1);
        y.sign(2);
        Check.missing("47: the other one has not signed", () -> y.isAhead(0, 1));
        Check.missing("47: the player has not signed", () -> y.isAhead(1, 0));
        Check.missing("47: the other one is out", () -> y.isAhead(0, 2));
        Check.missing("47: the player is out", () -> y.isAhead(2, 0));
        Check.bounds("47: the other one ahead of it", () -> y.isAhead(2, 3));
    }

    private static void cuts() {
        FairwayChancery x = round(new int[] {1}, new int[] {2}, new int[] {2}, new int[] {3}, new int[] {0},
                new int[] {4});
        for (int places : new int[] {0, 7, -1, Integer.MAX_VALUE}) {
            Check.argument("48: out of range", () -> x.cut(places));
        }
        Check.same("48: nobody has signed", x.cut(6), 0);
        for (int i = 0; i < 4; i++) {
            x.sign(i);
        }
        x.write(5, 0, 1);
        x.sign(5);
        Check.same("48: the first", x.cut(1), 1);
        Check.same("48: the second, twice", x.cut(2), 3);
        Check.same("48: no third", x.cut(3), 3);
        Check.same("48: the fourth", x.cut(4), 4);
        Check.same("48: who is out is not counted", x.cut(6), 4);
        Check.same("48: no players", new FairwayChancery().cut(1), 0);
    }

    private static void penaltyShares() {
        FairwayChancery x = Play.shortHoles(3, 2);
        Check.bounds("55: no such player", () -> x.penaltyShare(2));
        Check.arithmetic("55: no round", () -> x.penaltyShare(0));
        x.begin('s');
        Play.to(x, 0, 8, 10);
        x.again(0);
        Play.holeWith(x, 0, 1);
        Play.to(x, 1, 8, 10);
        x.again(1);
        x.pickUp(1);
        Check.arithmetic("55: not told yet", () -> x.penaltyShare(0));
        x.nextHole();
        Check.same("55: 1 of 3", x.penaltyShare(0), 1f / 3f);
        Check.arithmetic("55: no score", () -> x.penaltyShare(1));
        Play.holeOut(x, 4, 2);
        Check.same("55: 1 of 7", x.penaltyShare(0), 1f / 7f);
        Check.same("55: none", x.penaltyShare(1), 0f);
        Play.to(x, 0, 8, 10);
        x.again(0);
        x.pickUp(0);
        Play.holeWith(x, 1, 1);
        x.nextHole();
        Check.same("55: with a score alone", x.penaltyShare(0), 1f / 7f);
        x.write(0, 1, 99);
        Check.same("55: whatever is written", x.penaltyShare(0), 1f / 7f);
        x.begin('s');
        Check.arithmetic("55: a new round", () -> x.penaltyShare(0));
        FairwayChancery y = Play.shortHoles(2, 1);
        y.begin('s');
        Play.holeOut(y, 1);
        Play.to(y, 0, 8, 10);
        y.again(0);
        Play.holeOut(y, 1);
        y.begin('s');
        Play.holeOut(y, 2);
        Check.same("55: of this round", y.penaltyShare(0), 0f);
    }

    /** The course is as large as it can be, and every row as full. */
    private static void nineHolesOfSix() {
        FairwayChancery x = Play.shortHoles(9, 6);
        x.setHandicap(5, 36);
        x.begin('s');
        for (int hole = 0; hole < 9; hole++) {
            Play.holeOut(x, 2, 3, 2, 2, 0, 3);
        }
        for (int i = 0; i < 6; i++) {
            boolean isNone = i == 4;
            int player = i;
            if (isNone) {
                Check.missing("40: none", () -> x.sign(player));
                Check.missing("41: none", () -> x.total(player));
                Check.arithmetic("55: none", () -> x.penaltyShare(player));
            } else {
                Check.yes("40: nine holes", x.sign(player));
                Check.same("41: nine holes", x.total(player), i % 5 == 1 || i == 5 ? 27 : 18);
                Check.same("55: nine holes", x.penaltyShare(player), 0f);
            }
        }
        Check.same("46: nine holes", x.rank(0) * 100 + x.rank(1) * 10 + x.rank(5), 144);
        Check.same("42: nine holes", x.stableford(5), 9 * 7);
        Check.same("43: nine holes", x.parPlay(4), -9);
        Check.same("44: nine holes", x.together(4, 1), 27);
        Check.same("45: nine holes", x.skins(5), 9);
        Check.same("48: nine holes", x.cut(6), 5);
        Check.same("50: nine holes", x.post(5, 270, 113), 0);
        Check.same("56: nine holes", x.meanScore(8), 12.0 / 5.0);
        Check.yes("57: nine holes", x.isSound());
        Check.no("47: nine holes", x.isAhead(0, 2));
        Check.bounds("2: a tenth hole", () -> x.kindAt(9, 0, 0));
        Check.bounds("5: a seventh player", () -> x.together(6, 0));
    }

    private static void meanScores() {
        FairwayChancery x = Play.shortHoles(2, 3);
        Check.bounds("56: no such hole", () -> x.meanScore(2));
        Check.bounds("56: no such hole", () -> x.meanScore(-1));
        Check.arithmetic("56: no round", () -> x.meanScore(0));
        x.begin('s');
        Check.arithmetic("56: not told yet", () -> x.meanScore(0));
        Play.holeOut(x, 2, 3, 2);
        Check.same("56: of three", x.meanScore(0), 7.0 / 3.0);
        Play.holeOut(x, 2, 0, 3);
        Check.same("56: of two", x.meanScore(1), 2.5);
        x.write(0, 1, 99);
        Check.same("56: whatever is written", x.meanScore(1), 2.5);
        x.begin('s');
        Check.arithmetic("56: a new round", () -> x.meanScore(0));
        Play.holeOut(x, 0, 0, 0);
        Check.arithmetic("56: no score", () -> x.meanScore(0));
    }
}
