/** The boundary cases of "Terms" part 3 without SHEETS, and of promises 14 to 20: what is foretold. */
public final class ForetoldEdgesTest {
    private static final Check CHECK = new Check("ForetoldEdgesTest");
    private static final int LEAST = Integer.MIN_VALUE, MOST = Integer.MAX_VALUE;
    private static final int BAD = -1, NOT = -2, NONE = -4;

    private static void due(String call, long got, long want) {
        CHECK.due(call, got, want);
    }

    public static void main(String[] args) {
        noStrip();
        badComesAheadOfNot();
        reachOfAllTorn();
        reachOfEachRing();
        reachWithoutTheFirst();
        reachByOneSide();
        tornAsNow();
        wayToFrontAndBack();
        wayOverItsEnd();
        wayNone();
        wayOfLeastEffort();
        wayOfFewestMoves();
        wayThatComesFirst();
        wayAsNow();
        tourOfSomeRings();
        tourOfTheMost();
        tourThatIsOne();
        tourNone();
        roundRefused();
        roundAheadAndBetween();
        roundOfTurns();
        roundNextSide();
        roundStepByStep();
        handRefused();
        handOfNoMoves();
        handOfTenAndNone();
        handInLowestTerms();
        handByWear();
        duelRefused();
        duelOfNoMoves();
        duelBelowAHundred();
        duelOfSix();
        decadesRefused();
        decadesOfNone();
        decadesOfSixty();
        decadesByDraws();
        nothingChanges();
        CHECK.end();
    }

    /** All PLAIN ones, TORN; FRONT 0, BACK 1. */
    private static FlexedFaces allTorn() {
        FlexedFaces x = Check.of("xp91,p91,p91;-;01");
        for (int k = 0; k < 3; k++) {
            x.flex(1);
        }
        return x;
    }

    private static void noStrip() {
        FlexedFaces x = new FlexedFaces();
        CHECK.says("NOT: no STRIP.");
        due("reach()", x.reach(), NOT);
        due("tour()", x.tour(), NOT);
        for (int what = 0; what < 2; what++) {
            due("round(" + what + ")", x.round(what), NOT);
            due("decades(0, 1, " + what + ")", x.decades(0, 1, what), NOT);
            due("decades(60, 999999, " + what + ")", x.decades(60, 999999, what), NOT);
        }
        due("duel(0)", x.duel(0), NOT);
        due("duel(6)", x.duel(6), NOT);
        CHECK.says("BAD .. there is no such thing");
        for (int k = -3; k < 2; k++) {
            due("way(0, " + k + ")", x.way(0, k), BAD);
        }
        due("hand(0, 0, 0, 0)", x.hand(0, 0, 0, 0), BAD);
        due("hand(0, 6, 10, 1)", x.hand(0, 6, 10, 1), BAD);
    }

    private static void badComesAheadOfNot() {
        CHECK.says("of several the first that a call names");
        FlexedFaces x = new FlexedFaces();
        due("round(-1)", x.round(-1), BAD);
        due("round(2)", x.round(2), BAD);
        due("duel(-1)", x.duel(-1), BAD);
        due("duel(7)", x.duel(7), BAD);
        due("decades(-1, 1, 0)", x.decades(-1, 1, 0), BAD);
        due("decades(61, 1, 0)", x.decades(61, 1, 0), BAD);
        due("decades(0, 0, 0)", x.decades(0, 0, 0), BAD);
        due("decades(0, 1000000, 0)", x.decades(0, 1000000, 0), BAD);
        due("decades(0, 1, -1)", x.decades(0, 1, -1), BAD);
        due("decades(0, 1, 2)", x.decades(0, 1, 2), BAD);
    }

    private static void reachOfAllTorn() {
        CHECK.says("PICTURES that can be FRONT, by what MAY be done, FRONT, too");
        FlexedFaces x = allTorn();
        due("reach(), all TORN: FRONT and BACK", x.reach(), 3);
        x.mend(2);
        due("reach(), one MENDED", x.reach(), 7);
        FlexedFaces eight = Check.of("xp01,p01,p02,p01,p01,p01,p01,p01;02,03,04,05,06;01");
        for (int k = 0; k < 3; k++) {
            eight.flex(1);
        }
        for (int k = 2; k < 8; k++) {
            eight.flex(1);
            eight.turn();
        }
        due("all eight TORN", eight.count(5), 255);
        due("reach(), FRONT 0 and BACK 7", eight.reach(), 129);
        due("tour()", eight.tour(), 1);
    }

    private static void reachOfEachRing() {
        CHECK.says("REACH: PICTURES that can be FRONT, by what MAY be done");
        for (int n = 3; n <= 8; n++) {
            due("reach() of " + n, Check.of(Texts.fanned(n, "p01", "01")).reach(), (1 << n) - 1);
            due("reach() of " + n, Check.of(Texts.fanned(n, "p01", (n - 1) + "0")).reach(), (1 << n) - 1);
        }
    }

    private static void reachWithoutTheFirst() {
        CHECK.says("REACH: PICTURES that can be FRONT");
        FlexedFaces x = Check.of("xp01,p01,p01;-;12");
        for (int k = 0; k < 3; k++) {
            x.flex(1);
        }
        due("all TORN", x.count(5), 7);
        due("FRONT 1 and BACK 2", x.reach(), 6);
        due("way(0, -1)", x.way(0, -1), NONE);
    }

    /** 0 and 1, in view, are TORN: the fourth comes only if the third came by a FLEX without a TURN ahead. */
    private static void reachByOneSide() {
        CHECK.says("What MAY be done: a FLEX that brings a PICTURE that is not TORN; a TURN.");
        FlexedFaces left = Check.of("xp01,p01,s09,s09;02;01");
        FlexedFaces right = Check.of("xp01,p01,s09,s09;13;10");
        for (int k = 0; k < 3; k++) {
            left.flex(1);
            right.flex(0);
        }
        due("TORN, LEFT", left.count(5), 3);
        due("TORN, RIGHT", right.count(5), 3);
        due("reach() by LEFT", left.reach(), 15);
        due("reach() by RIGHT", right.reach(), 15);
        moves(left, 3, 8, 1, 0);
        moves(right, 2, 8, 0, 1);
        left.turn();
        left.flex(0);
        due("reach() behind a TURN", left.reach(), 6);
        right.turn();
        right.flex(1);
        due("reach() behind a TURN", right.reach(), 9);
    }

    /** Each PICTURE bears one FLEX: foretold by TORN as now, going on wears nothing. */
    private static void tornAsNow() {
        CHECK.says("(TORN as now, in WAY, TOUR, ROUND, too)");
        for (int n = 3; n <= 8; n++) {
            FlexedFaces thin = Check.of(Texts.fanned(n, "t01", "10"));
            FlexedFaces plain = Check.of(Texts.fanned(n, "p09", "10"));
            due("reach() of " + n, thin.reach(), plain.reach());
            due("tour() of " + n, thin.tour(), plain.tour());
            due("round(0) of " + n, thin.round(0), plain.round(0));
            due("round(1) of " + n, thin.round(1), plain.round(1));
            for (int p = 0; p < n; p++) {
                due("way(" + p + ", -2) of " + n, thin.way(p, -2), plain.way(p, -2));
            }
        }
        due("round(1) of three, to the LEFT twice round", Check.of("xt01,t01,t01;-;01").round(1), 6);
        due("round(1), all TORN", allTorn().round(1), 2);
    }

    private static void wayToFrontAndBack() {
        CHECK.says("EFFORT of all together (k -2), how many MOVES (k -1), the k-th MOVE (0 on");
        FlexedFaces x = allTorn();
        due("way(0, -2), to FRONT", x.way(0, -2), 0);
        due("way(0, -1), to FRONT", x.way(0, -1), 0);
        due("way(0, 0), to FRONT", x.way(0, 0), NONE);
        due("way(1, -2), to BACK", x.way(1, -2), 1);
        due("way(1, -1), to BACK", x.way(1, -1), 1);
        due("way(1, 0), to BACK, a TURN", x.way(1, 0), 2);
        due("way(1, 1), to BACK", x.way(1, 1), NONE);
        FlexedFaces glossy = Check.of("xg09,g09,g09;-;01");
        due("way(2, -2), a FLEX of 1", glossy.way(2, -2), 1);
        due("way(2, 0)", glossy.way(2, 0), 1);
    }

    private static void wayOverItsEnd() {
        CHECK.says("NONE: k is as many, or more");
        FlexedFaces x = Check.of("xp09,p09,p09,p09,p09;02,03;10");
        due("way(4, -1)", x.way(4, -1), 4);
        due("way(4, 3), the last MOVE", x.way(4, 3), 0);
        due("way(4, 4), as many", x.way(4, 4), NONE);
        due("way(4, 5), more", x.way(4, 5), NONE);
        due("way(4, most), more", x.way(4, MOST), NONE);
        CHECK.says("BAD: k below -2, too");
        due("way(4, -3)", x.way(4, -3), BAD);
        due("way(4, least)", x.way(4, LEAST), BAD);
        due("way(1, -3), to FRONT", x.way(1, -3), BAD);
        due("way(-1, 0)", x.way(-1, 0), BAD);
        due("way(5, 0)", x.way(5, 0), BAD);
        due("way(least, 0)", x.way(LEAST, 0), BAD);
        due("way(most, 0)", x.way(MOST, 0), BAD);
    }

    private static void wayNone() {
        CHECK.says("of these the first, MOVE by MOVE; none");
        FlexedFaces x = allTorn();
        for (int k = -2; k < 3; k++) {
            due("way(2, " + k + "), it cannot come", x.way(2, k), NONE);
        }
        due("way(2, -3), it cannot come, but k is BAD", x.way(2, -3), BAD);
        due("way(3, -2)", x.way(3, -2), BAD);
        x.mend(2);
        due("way(2, -1), it can come again", x.way(2, -1), 1);
    }

    private static void moves(FlexedFaces x, int picture, int effort, int... moves) {
        due("way(" + picture + ", -2)", x.way(picture, -2), effort);
        due("way(" + picture + ", -1)", x.way(picture, -1), moves.length);
        for (int k = 0; k < moves.length; k++) {
            due("way(" + picture + ", " + k + ")", x.way(picture, k), moves[k]);
        }
        due("way(" + picture + ", " + moves.length + ")", x.way(picture, moves.length), NONE);
    }

    /** 1 0, 2 1, 0 2, 3 0, 4 3 takes 10 in 4 MOVES; 1 0, 0 1, 2 0, 0 2, 3 0, 4 3 takes 8 in 5. */
    private static void wayOfLeastEffort() {
        CHECK.says("the MOVES by which it comes to be FRONT with the least EFFORT");
        moves(Check.of("xs09,p09,p09,p09,p09;02,03;10"), 4, 8, 2, 1, 2, 1, 0);
    }

    /** Both of these take 8, if PICTURE 0 takes 2. */
    private static void wayOfFewestMoves() {
        CHECK.says("of like ones the fewest MOVES");
        moves(Check.of("xp09,p09,p09,p09,p09;02,03;10"), 4, 8, 0, 0, 1, 0);
    }

    /** RIGHT RIGHT LEFT and TURN LEFT RIGHT take 3 in 3 MOVES; seen from behind, LEFT LEFT RIGHT comes ahead of TURN. */
    private static void wayThatComesFirst() {
        CHECK.says("of these the first, MOVE by MOVE");
        moves(Check.of("xg09,g09,g09,g09;02;10"), 3, 3, 0, 0, 1);
        moves(Check.of("xg09,g09,g09,g09;02;30"), 1, 3, 1, 1, 0);
    }

    private static void wayAsNow() {
        CHECK.says("(each PICTURE's as now)");
        FlexedFaces x = Check.of("xb09,p09,p09,p09,p09;02,03;10");
        // over the BOARD 0 it takes 4, 3, 2, 1 more than 6, over two TURNS 2 more
        int[] efforts = {8, 8, 8, 7, 7};
        int[] counts = {5, 5, 4, 4, 4};
        for (int shown = 0; shown < efforts.length; shown++) {
            due("SHOWN", x.picture(0, 4), shown);
            due("way(4, -2), SHOWN " + shown, x.way(4, -2), efforts[shown]);
            due("way(4, -1), SHOWN " + shown, x.way(4, -1), counts[shown]);
            for (int k = 0; k < 3; k++) {
                x.flex(0);
            }
        }
    }

    private static void tourOfSomeRings() {
        CHECK.says("TOUR: the fewest MOVES, each of which MAY be done, by which all PICTURES of REACH were FRONT");
        due("tour() of three", Check.of("xp09,p09,p09;-;01").tour(), 2);
        due("tour() of four", Check.of("xp09,p09,p09,p09;02;02").tour(), 4);
        due("tour() of eight", Check.of("xb09,b99,s19,t29,g39,p49,p59,p69;13,17,37,35,57;17").tour(), 14);
    }

    /** Found by a search of its own over all FOLDINGS of eight, all that can be TORN, all FRONTS and BACKS. */
    private static void tourOfTheMost() {
        CHECK.says("TOUR: the fewest MOVES");
        due("tour() of most to look at", Check.of("xs09,s09,s09,s09,s09,s09,s09,s09;02,04,06,24,46;04").tour(), 15);
        FlexedFaces x = Check.of("xp01,s09,s09,s09,s09,s09,s09,s09;02,03,04,05,57;70");
        for (int k = 0; k < 3; k++) {
            x.flex(1);
        }
        due("FRONT again", x.count(1), 7);
        due("BACK again", x.count(2), 0);
        due("TORN", x.count(5), 1);
        due("tour(), the longest there is", x.tour(), 20);
    }

    private static void tourThatIsOne() {
        CHECK.says("by which all PICTURES of REACH were FRONT");
        due("tour(), all TORN: a TURN", allTorn().tour(), 1);
        FlexedFaces x = allTorn();
        x.turn();
        due("tour(), all TORN, turned", x.tour(), 1);
    }

    /** 0 and 2, in view, are TORN; 1 comes to the RIGHT, 3 to the LEFT, and there is no way from one to the other. */
    private static void tourNone() {
        CHECK.says("none (it may be that one keeps from another)");
        FlexedFaces x = Check.of("xp11,p29,p31,p49;02;02");
        due("tour()", x.tour(), 4);
        for (int k = 0; k < 3; k++) {
            x.flex(0);
        }
        due("TORN", x.count(5), 5);
        due("reach()", x.reach(), 15);
        due("tour()", x.tour(), NONE);
        x.flex(0);
        due("reach(), 1 being there", x.reach(), 3);
        due("tour(), 1 being there", x.tour(), 1);
        x.undo();
        x.mend(0);
        // 2, still TORN, comes by a TURN alone: 0 2, 2 0, 1 2, 2 1, 0 2, 3 0
        due("tour(), one MENDED", x.tour(), 5);
    }

    private static void roundRefused() {
        CHECK.says("ROUND. BAD; NOT: no STRIP.");
        FlexedFaces x = allTorn();
        due("round(-1)", x.round(-1), BAD);
        due("round(2)", x.round(2), BAD);
        due("round(least)", x.round(LEAST), BAD);
        due("round(most)", x.round(MOST), BAD);
    }

    private static void roundAheadAndBetween() {
        CHECK.says("how many MOVES come ahead of the first time that FRONT, BACK, and the side that is next, are as they are again later (0), how many lie between (1)");
        FlexedFaces x = Check.of("xp09,p09,p09,p09;02;01");
        // 01 R: LEFT 20 L: 12 R: LEFT 01 L: 20 R: 32 L: RIGHT 03 R: 20 L, as behind the first MOVE
        due("round(0)", x.round(0), 1);
        due("round(1)", x.round(1), 6);
        FlexedFaces y = Check.of("xp09,p09,p09,p09;02;02");
        due("round(0), none ahead", y.round(0), 0);
        due("round(1)", y.round(1), 6);
        FlexedFaces eight = Check.of("xb09,b99,s19,t29,g39,p49,p59,p69;13,17,37,35,57;17");
        due("round(0) of eight", eight.round(0), 0);
        due("round(1) of eight", eight.round(1), 18);
    }

    private static void roundOfTurns() {
        CHECK.says("a FLEX to that side, if it MAY be done, else to the other one, if that MAY, else a TURN, on and on");
        FlexedFaces x = allTorn();
        due("round(0), TURNS alone", x.round(0), 0);
        due("round(1), TURNS alone", x.round(1), 2);
        // 0 and 2 are TORN: 1 comes first, then TURNS alone
        FlexedFaces y = Check.of("xp11,p29,p31,p49;02;02");
        for (int k = 0; k < 3; k++) {
            y.flex(0);
        }
        due("round(0), a FLEX, then TURNS", y.round(0), 1);
        due("round(1), a FLEX, then TURNS", y.round(1), 2);
    }

    /** Three PICTURES to one side: FRONT and BACK are again as they are behind 3 MOVES, the side behind 6. */
    private static void roundNextSide() {
        CHECK.says("FRONT, BACK, and the side that is next");
        due("round(0)", Check.of("xs09,s09,s09;-;01").round(0), 0);
        due("round(1)", Check.of("xs09,s09,s09;-;01").round(1), 6);
        due("round(1), the other way round", Check.of("xs09,s09,s09;-;10").round(1), 6);
    }

    /** STIFF ones wear nothing, so a second object can go the whole way. */
    private static void roundStepByStep() {
        CHECK.says("ROUND: to the RIGHT and to the LEFT by turns, RIGHT first");
        for (int n = 3; n <= 8; n++) {
            for (int p = 0; p < n; p++) {
                stepByStep(Texts.fanned(n, "s09", "" + p + (p + 1) % n));
                stepByStep(Texts.fanned(n, "s09", "" + (p + 1) % n + p));
            }
        }
        for (String shown : new String[] {"01", "10", "17", "71", "27", "72", "26", "62", "36", "63", "35", "53"}) {
            stepByStep("xs09,s09,s09,s09,s09,s09,s09,s09;17,27,26,36,35;" + shown);
        }
    }

    private static void stepByStep(String text) {
        FlexedFaces goes = Check.of(text);
        java.util.List<Integer> seen = new java.util.ArrayList<>();
        int side = 0;
        int now = (goes.count(1) * 8 + goes.count(2)) * 2;
        while (!seen.contains(now)) {
            seen.add(now);
            if (goes.flex(side) == NOT && goes.flex(1 - side) == NOT) {
                goes.turn();
            }
            side = 1 - side;
            now = (goes.count(1) * 8 + goes.count(2)) * 2 + side;
        }
        FlexedFaces x = Check.of(text);
        due("round(0) of " + text, x.round(0), seen.indexOf(now));
        due("round(1) of " + text, x.round(1), seen.size() - seen.indexOf(now));
    }

    private static void handRefused() {
        CHECK.says("HAND, q (0 to 10) of ten, n (0 to 6) MOVES");
        FlexedFaces x = Check.of("xs09,s09,s09;-;01");
        due("n -1", x.hand(0, -1, 5, 0), BAD);
        due("n 7", x.hand(0, 7, 5, 0), BAD);
        due("n least", x.hand(0, LEAST, 5, 0), BAD);
        due("n most", x.hand(0, MOST, 5, 0), BAD);
        due("q -1", x.hand(0, 6, -1, 0), BAD);
        due("q 11", x.hand(0, 6, 11, 0), BAD);
        due("q least", x.hand(0, 6, LEAST, 0), BAD);
        due("q most", x.hand(0, 6, MOST, 0), BAD);
        CHECK.says("HAND: above (what 0), below (1). BAD.");
        due("what -1", x.hand(0, 6, 5, -1), BAD);
        due("what 2", x.hand(0, 6, 5, 2), BAD);
        due("picture -1", x.hand(-1, 6, 5, 0), BAD);
        due("picture 3", x.hand(3, 6, 5, 0), BAD);
        due("picture least", x.hand(LEAST, 6, 5, 0), BAD);
        due("picture most", x.hand(MOST, 6, 5, 0), BAD);
        due("picture 2", x.hand(2, 6, 5, 1), 64);
    }

    private static void odds(FlexedFaces x, int picture, int n, int q, int above, int below) {
        due("hand(" + picture + ", " + n + ", " + q + ", 0)", x.hand(picture, n, q, 0), above);
        due("hand(" + picture + ", " + n + ", " + q + ", 1)", x.hand(picture, n, q, 1), below);
    }

    private static void handOfNoMoves() {
        CHECK.says("n (0 to 6) MOVES");
        FlexedFaces x = Check.of("xs09,s09,s09;-;01");
        for (int q = 0; q <= 10; q++) {
            odds(x, 0, 0, q, 1, 1);
            odds(x, 1, 0, q, 0, 1);
        }
    }

    /** Of three STIFF ones FRONT goes one on by RIGHT (a TURN, or a FLEX), one back by LEFT. */
    private static void handOfTenAndNone() {
        CHECK.says("each is RIGHT by q of ten, else LEFT, by itself");
        FlexedFaces x = Check.of("xs09,s09,s09;-;01");
        for (int n = 0; n <= 6; n++) {
            for (int p = 0; p < 3; p++) {
                odds(x, p, n, 10, n % 3 == p ? 1 : 0, 1);
                odds(x, p, n, 0, (6 - n) % 3 == p ? 1 : 0, 1);
            }
        }
        odds(x, 1, 1, 1, 1, 10);
        odds(x, 2, 1, 1, 9, 10);
        odds(x, 1, 1, 9, 9, 10);
        odds(x, 2, 1, 9, 1, 10);
    }

    private static void handInLowestTerms() {
        CHECK.says("Parts are told in lowest terms: above (what 0), below (1).");
        FlexedFaces x = Check.of("xs09,s09,s09;-;01");
        odds(x, 1, 1, 5, 1, 2);
        odds(x, 1, 1, 4, 2, 5);
        odds(x, 1, 1, 8, 4, 5);
        odds(x, 0, 1, 5, 0, 1);
        // of 64: all to one side 2, three and three 20
        odds(x, 0, 6, 5, 11, 32);
        odds(x, 1, 6, 5, 21, 64);
        odds(x, 2, 6, 5, 21, 64);
        odds(x, 0, 6, 3, 151799, 500000);
        odds(x, 1, 6, 3, 334341, 1000000);
        odds(x, 0, 6, 1, 273011, 500000);
        odds(x, 0, 6, 9, 273011, 500000);
    }

    private static void handByWear() {
        CHECK.says("if that MAY not be done (by WEAR as it goes on), a TURN");
        FlexedFaces x = Check.of("xp11,p11,p11;-;01");
        // to the LEFT: 2, 1, 0, then TURNS: 1, 0, 1
        int[] fronts = {0, 2, 1, 0, 1, 0, 1};
        for (int n = 0; n <= 6; n++) {
            for (int p = 0; p < 3; p++) {
                odds(x, p, n, 0, fronts[n] == p ? 1 : 0, 1);
            }
        }
        FlexedFaces torn = allTorn();
        for (int n = 0; n <= 6; n++) {
            odds(torn, n % 2, n, 7, 1, 1);
            odds(torn, 2, n, 7, 0, 1);
        }
    }

    private static void duelRefused() {
        CHECK.says("DUEL, n (0 to 6) MOVES by turns of two");
        FlexedFaces x = Check.of("xs09,s09,s09;-;01");
        due("duel(-1)", x.duel(-1), BAD);
        due("duel(7)", x.duel(7), BAD);
        due("duel(least)", x.duel(LEAST), BAD);
        due("duel(most)", x.duel(MOST), BAD);
    }

    private static void duelOfNoMoves() {
        CHECK.says("DUEL: 100 more than that.");
        due("duel(0)", Check.of("xs99,s99,s99;-;01").duel(0), 100);
        due("duel(1)", Check.of("xs99,s99,s99;-;01").duel(1), 109);
        due("duel(1), WORTH 0", Check.of("xs09,s09,s09;-;01").duel(1), 100);
        for (int n = 0; n <= 6; n++) {
            due("duel(" + n + "), all TORN", allTorn().duel(n), 100);
        }
    }

    /** RIGHT gets 1, then the other one gets 9; a TURN leaves that 1 to the other one. */
    private static void duelBelowAHundred() {
        CHECK.says("what the first one gets more than the other one, each wanting that much for oneself");
        due("duel(2)", Check.of("xp91,p01,p11;-;10").duel(2), 99);
        due("duel(1)", Check.of("xp91,p01,p11;-;10").duel(1), 101);
    }

    private static void duelOfSix() {
        CHECK.says("one does what MAY be done (WEAR going on), and gets WORTH of the PICTURE that a FLEX brings (of a TURN 0)");
        // 9 each by turns, as long as they bear; of the third one the first of the two has the better
        int[] worn = {100, 109, 100, 109, 109, 109, 109};
        for (int n = 0; n <= 6; n++) {
            due("duel(" + n + ") by WEAR", Check.of("xp91,p91,p91;-;01").duel(n), worn[n]);
        }
        int[] stiff = {100, 109, 100, 109, 100, 109, 100};
        for (int n = 0; n <= 6; n++) {
            due("duel(" + n + ")", Check.of("xs99,s99,s99;-;01").duel(n), stiff[n]);
        }
    }

    private static void decadesRefused() {
        CHECK.says("DECADES (n 0 .. 60; a SEED 1 .. 999999): EFFORT (what 0), FRONT (1). BAD");
        FlexedFaces x = allTorn();
        due("n -1", x.decades(-1, 1, 0), BAD);
        due("n 61", x.decades(61, 1, 0), BAD);
        due("n least", x.decades(LEAST, 1, 0), BAD);
        due("n most", x.decades(MOST, 1, 0), BAD);
        due("SEED 0", x.decades(0, 0, 0), BAD);
        due("SEED -1", x.decades(0, -1, 0), BAD);
        due("SEED 1000000", x.decades(0, 1000000, 0), BAD);
        due("SEED least", x.decades(0, LEAST, 0), BAD);
        due("SEED most", x.decades(0, MOST, 0), BAD);
        due("what -1", x.decades(0, 1, -1), BAD);
        due("what 2", x.decades(0, 1, 2), BAD);
    }

    private static void decadesOfNone() {
        CHECK.says("DECADES by a SEED (X at first), n times");
        FlexedFaces x = allTorn();
        for (int seed : new int[] {1, 999999}) {
            due("n 0, EFFORT as it is", x.decades(0, seed, 0), 6);
            due("n 0, FRONT as it is", x.decades(0, seed, 1), 0);
        }
    }

    private static void decadesOfSixty() {
        CHECK.says("EFFORT of all MOVES together at last; FRONT");
        FlexedFaces x = allTorn();
        for (int seed : new int[] {1, 999999}) {
            due("n 1, a TURN", x.decades(1, seed, 0), 7);
            due("n 1, FRONT", x.decades(1, seed, 1), 1);
            due("n 59, TURNS", x.decades(59, seed, 0), 65);
            due("n 59, FRONT", x.decades(59, seed, 1), 1);
            due("n 60, TURNS", x.decades(60, seed, 0), 66);
            due("n 60, FRONT", x.decades(60, seed, 1), 0);
        }
    }

    /** Follows the draws with whole numbers of any size, on a second object that does the MOVES. */
    private static void decadesByDraws() {
        CHECK.says("each time X becomes the rest of 16807 times X by 2147483647; the MOVE that X by 8 (cut) leaves by 3, a TURN, if that MAY not be done");
        String text = "xp03,g09,t05,s19,b29,p02;02,24,04;02";
        for (int seed : new int[] {1, 2, 77, 127773, 999998, 999999}) {
            FlexedFaces x = Check.of(text);
            FlexedFaces y = Check.of(text);
            java.math.BigInteger draw = java.math.BigInteger.valueOf(seed);
            for (int n = 1; n <= 60; n++) {
                draw = draw.multiply(java.math.BigInteger.valueOf(16807)).mod(java.math.BigInteger.valueOf(2147483647));
                int move = (int) (draw.longValue() / 8 % 3);
                if (move == 2 || y.flex(move) == NOT) {
                    y.turn();
                }
                due("decades(" + n + ", " + seed + ", 0)", x.decades(n, seed, 0), y.count(3));
                due("decades(" + n + ", " + seed + ", 1)", x.decades(n, seed, 1), y.count(1));
            }
        }
        // 16807 by 8 is 2100, that leaves 0 by 3, RIGHT, where none is: a TURN
        due("SEED 1, the first draw", Check.of("xs09,s09,s09;-;01").decades(1, 1, 1), 1);
        // 1774597664 by 8 is 221824708, that leaves 1 by 3
        due("SEED 999999, the first draw", Check.of("xs09,s09,s09;-;01").decades(1, 999999, 1), 2);
    }

    private static void nothingChanges() {
        CHECK.says("FORETOLD from now (nothing changes).");
        String[] calls = {"reach", "way", "tour", "round", "hand", "duel", "decades"};
        for (int k = 0; k < calls.length; k++) {
            int call = k;
            Twins.unchanged(CHECK, calls[k], Twins::used, x -> foretell(x, call));
        }
    }

    private static long foretell(FlexedFaces x, int call) {
        switch (call) {
            case 0: return x.reach();
            case 1: return x.way(3, 0);
            case 2: return x.tour();
            case 3: return x.round(1);
            case 4: return x.hand(1, 6, 5, 0);
            case 5: return x.duel(6);
            default: return x.decades(60, 999999, 0);
        }
    }
}
