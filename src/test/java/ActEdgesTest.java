/** The boundary cases of "Terms" part 2, and of promises 7 to 13: acts, undoing, images. */
public final class ActEdgesTest {
    private static final Check CHECK = new Check("ActEdgesTest");
    private static final String SIX = "xp32,g51,t72,s19,b49,p63;02,24,04;02";
    private static final int LEAST = Integer.MIN_VALUE, MOST = Integer.MAX_VALUE;
    private static final int BAD = -1, NOT = -2, NONE = -4;

    private static void due(String call, long got, long want) {
        CHECK.due(call, got, want);
    }

    public static void main(String[] args) {
        noneOnThatSide();
        roundTheRing();
        frontThenBack();
        effortOfEachKind();
        boardOneAtLeast();
        turnTakesOne();
        wearOfEachKind();
        tornByAsMuchOrMore();
        shown99AtMost();
        effortTogether();
        latest24();
        latestFirst();
        everyActIsUndone();
        refusedIsNoAct();
        flexRefused();
        turnRefused();
        refoldTaken();
        refoldRefused();
        refoldOfFrontAndBack();
        mendZeroAtLeast();
        mendOfTheMost();
        mendRefused();
        undoNone();
        imageRefused();
        imageKeptAnew();
        restoreRefused();
        restoreUndoesNothing();
        CHECK.end();
    }

    private static void noneOnThatSide() {
        CHECK.says("none, if there is none on that side");
        for (int n = 3; n <= 8; n++) {
            for (int a = 0; a < n; a++) {
                int next = (a + 1) % n;
                FlexedFaces x = Check.of(Texts.fanned(n, "s09", "" + a + next));
                due("brings(0), " + a + " and its next of " + n, x.brings(0), NONE);
                due("flex(0), " + a + " and its next of " + n, x.flex(0), NOT);
                FlexedFaces y = Check.of(Texts.fanned(n, "s09", "" + next + a));
                due("brings(1), the next of " + a + " of " + n, y.brings(1), NONE);
                due("flex(1), the next of " + a + " of " + n, y.flex(1), NOT);
            }
        }
    }

    /** All FOLDS are of PICTURE 0: with k and 0 in view k + 1 lies behind k, k - 1 ahead of it. */
    private static void roundTheRing() {
        CHECK.says("to the RIGHT that of the PICTURES that come behind a, ahead of b, round the ring; to the LEFT that of the others");
        for (int n = 4; n <= 8; n++) {
            for (int k = 1; k < n; k++) {
                int behind = k == n - 1 ? NONE : k + 1;
                int ahead = k == 1 ? NONE : k - 1;
                FlexedFaces x = Check.of(Texts.fanned(n, "s09", k + "0"));
                due("brings(0), " + k + " 0 of " + n, x.brings(0), behind);
                due("brings(1), " + k + " 0 of " + n, x.brings(1), ahead);
                FlexedFaces y = Check.of(Texts.fanned(n, "s09", "0" + k));
                due("brings(0), 0 " + k + " of " + n, y.brings(0), ahead);
                due("brings(1), 0 " + k + " of " + n, y.brings(1), behind);
            }
        }
    }

    private static void frontThenBack() {
        CHECK.says("It is FRONT then, and a is BACK. A TURN changes FRONT and BACK about.");
        FlexedFaces x = Check.of(Texts.fanned(8, "s09", "70"));
        due("flex(1)", x.flex(1), 6);
        due("FRONT", x.count(1), 6);
        due("BACK", x.count(2), 7);
        due("turn()", x.turn(), 7);
        due("FRONT", x.count(1), 7);
        due("BACK", x.count(2), 6);
    }

    private static void effortOfEachKind() {
        CHECK.says("a PLAIN one 2, a GLOSSY one 1 less than a PLAIN one, a THIN one as a PLAIN one; a STIFF one 4; a BOARD as a STIFF one");
        String[] kinds = {"p", "g", "t", "s", "b"};
        int[] efforts = {2, 1, 2, 4, 4};
        for (int k = 0; k < 5; k++) {
            FlexedFaces x = Check.of("xp09,p09," + kinds[k] + "09;-;01");
            due("EFFORT now of " + kinds[k], x.picture(2, 5), efforts[k]);
            x.flex(1);
            due("EFFORT of a FLEX to " + kinds[k], x.count(3), efforts[k]);
        }
    }

    private static void boardOneAtLeast() {
        CHECK.says("1 less for each time that it was SHOWN (1 at least)");
        FlexedFaces x = Check.of("xs01,s01,b01;-;01");
        int[] now = {4, 3, 2, 1, 1, 1, 1};
        int together = 0;
        for (int shown = 0; shown < now.length; shown++) {
            due("EFFORT of a BOARD SHOWN " + shown + " times", x.picture(2, 5), now[shown]);
            due("SHOWN", x.picture(2, 4), shown);
            due("flex(1)", x.flex(1), 2);
            together += now[shown];
            due("EFFORT of all", x.count(3), together);
            due("a STIFF one takes 4 each time", x.picture(1, 5), 4);
            x.flex(1);
            x.flex(1);
            together += 8;
        }
    }

    private static void turnTakesOne() {
        CHECK.says("A TURN takes 1.");
        FlexedFaces x = Check.of("xs01,p01,b01;-;01");
        for (int k = 1; k <= 5; k++) {
            x.turn();
            due("EFFORT behind " + k + " TURNS", x.count(3), k);
        }
        due("nothing was SHOWN", x.count(4), 0);
        due("no WEAR", x.count(6), 0);
    }

    private static void wearOfEachKind() {
        CHECK.says("a PLAIN one by 1, a GLOSSY one as a PLAIN one, a THIN one by 1 more than a PLAIN one, a STIFF one, a BOARD by 0");
        String[] kinds = {"p", "g", "t", "s", "b"};
        int[] wears = {1, 1, 2, 0, 0};
        for (int k = 0; k < 5; k++) {
            FlexedFaces x = Check.of("xs09,s09," + kinds[k] + "09;-;01");
            for (int times = 1; times <= 3; times++) {
                x.flex(1);
                due("WEAR of " + kinds[k] + ", SHOWN " + times + " times", x.picture(2, 3), times * wears[k]);
                x.flex(1);
                x.flex(1);
            }
            due("WEAR of all", x.count(6), 3 * wears[k]);
        }
    }

    private static void tornAt(String picture, int[] torn) {
        FlexedFaces x = Check.of("xs01,s01," + picture + ";-;01");
        for (int shown = 0; shown < torn.length; shown++) {
            due(picture + " SHOWN " + shown + " times: TORN", x.picture(2, 7), torn[shown]);
            due(picture + " SHOWN " + shown + " times: TORN ones", x.count(5), 4 * torn[shown]);
            due(picture + " SHOWN " + shown + " times: brings(1)", x.brings(1), 2);
            due(picture + " SHOWN " + shown + " times: flex(1)", x.flex(1), torn[shown] == 1 ? NOT : 2);
            x.flex(1);
            x.flex(1);
        }
    }

    private static void tornByAsMuchOrMore() {
        CHECK.says("A PICTURE of WEAR as much as it BEARS, or more, is TORN: no FLEX brings it.");
        tornAt("p01", new int[] {0, 1});
        tornAt("p02", new int[] {0, 0, 1});
        tornAt("g03", new int[] {0, 0, 0, 1});
        tornAt("p09", new int[] {0, 0, 0, 0, 0, 0, 0, 0, 0, 1});
        tornAt("t01", new int[] {0, 1});
        tornAt("t02", new int[] {0, 1});
        tornAt("t03", new int[] {0, 0, 1});
        tornAt("t04", new int[] {0, 0, 1});
        tornAt("t09", new int[] {0, 0, 0, 0, 0, 1});
        tornAt("s01", new int[] {0, 0, 0, 0});
        tornAt("b01", new int[] {0, 0, 0, 0});
    }

    private static void shown99AtMost() {
        CHECK.says("A PICTURE that a FLEX brings is SHOWN once more (99 at most).");
        FlexedFaces x = Check.of("xb01,s01,s01;-;10");
        // to the RIGHT: 2, 0, 1, ..; PICTURE 0 comes by each third FLEX
        for (int shown = 0; shown < 97; shown++) {
            x.flex(0);
            x.flex(0);
            x.flex(0);
        }
        int[] want = {97, 98, 99, 99, 99};
        for (int k = 0; k < want.length; k++) {
            due("SHOWN, round " + k, x.picture(0, 4), want[k]);
            x.flex(0);
            due("flex(0), the BOARD", x.flex(0), 0);
            x.flex(0);
        }
        due("EFFORT, rounds of 1 and 4 and 4", x.count(3), 4 + 3 + 2 + 99 + 102 * 8);
        due("the other ones, too", x.picture(2, 4), 99);
        due("EFFORT of the BOARD", x.picture(0, 5), 1);
        due("undo()", x.undo(), 23);
        due("SHOWN as it was, 99", x.picture(1, 4), 99);
    }

    private static void effortTogether() {
        CHECK.says("EFFORT of all MOVES is counted together.");
        FlexedFaces x = Check.of(SIX);
        x.flex(0);
        x.turn();
        x.flex(1);
        due("GLOSSY 1, a TURN 1, THIN 2", x.count(3), 4);
        x.refold(0, 4);
        x.mend(1);
        due("a FOLD and a mended one take none", x.count(3), 4);
    }

    private static void latest24() {
        CHECK.says("ACTS (the latest 24 can be undone, the latest first)");
        for (int acts = 0; acts <= 50; acts++) {
            FlexedFaces x = Check.of("xs01,s01,s01;-;01");
            for (int k = 0; k < acts; k++) {
                x.turn();
            }
            int can = Math.min(24, acts);
            due(acts + " ACTS: can be undone", x.count(7), can);
            for (int k = can - 1; k >= 0; k--) {
                due(acts + " ACTS: undo()", x.undo(), k);
            }
            due(acts + " ACTS: undo(), none can", x.undo(), NONE);
            due(acts + " ACTS: EFFORT of those that stay", x.count(3), acts - can);
            due(acts + " ACTS: FRONT", x.count(1), (acts - can) % 2);
        }
    }

    private static void latestFirst() {
        CHECK.says("the latest first");
        FlexedFaces x = Check.of("xs01,s01,s01;-;01");
        int[] fronts = {2, 1, 0};
        for (int k = 0; k < 25; k++) {
            x.flex(1);
        }
        for (int k = 24; k >= 1; k--) {
            due("undo()", x.undo(), k - 1);
            due("FRONT behind " + k + " ACTS", x.count(1), fronts[(k - 1) % 3]);
            due("EFFORT behind " + k + " ACTS", x.count(3), 4 * k);
        }
        due("undo(), the first one is too old", x.undo(), NONE);
        due("FRONT behind the first ACT", x.count(1), 2);
        CHECK.says("how many more can be");
        x.turn();
        due("an ACT more", x.count(7), 1);
        due("undo()", x.undo(), 0);
        due("undo()", x.undo(), NONE);
    }

    private static void everyActIsUndone() {
        CHECK.says("a FLEX; a TURN; a FOLD becomes OTHERWISE .. a PICTURE is MENDED");
        FlexedFaces x = Check.of(SIX);
        due("flex(0)", x.flex(0), 1);
        due("ACTS", x.count(7), 1);
        due("turn()", x.turn(), 0);
        due("ACTS", x.count(7), 2);
        due("refold(2, 4)", x.refold(2, 4), 3);
        due("ACTS", x.count(7), 3);
        due("mend(1)", x.mend(1), 0);
        due("ACTS", x.count(7), 4);
        due("undo() of what was MENDED", x.undo(), 3);
        due("WEAR 1 again, not 2", x.picture(1, 3), 1);
        due("undo() of a FOLD", x.undo(), 2);
        due("LINKED to 2", x.picture(2, 6), 0b11011);
        due("LINKED to 3", x.picture(3, 6), 0b10100);
        due("undo() of a TURN", x.undo(), 1);
        due("FRONT", x.count(1), 1);
        due("EFFORT", x.count(3), 1);
        due("undo() of a FLEX", x.undo(), 0);
        due("FRONT", x.count(1), 0);
        due("BACK", x.count(2), 2);
        due("EFFORT", x.count(3), 0);
        due("SHOWN", x.picture(1, 4), 0);
        due("WEAR", x.picture(1, 3), 0);
        due("TORN", x.picture(1, 7), 0);
    }

    private static void refusedIsNoAct() {
        CHECK.says("What is refused changes nothing, but as told.");
        FlexedFaces x = Check.of(SIX);
        x.flex(0);
        x.flex(1);
        x.flex(2);
        x.refold(0, 5);
        x.refold(0, 0);
        x.refold(0, 1);
        x.mend(0);
        x.mend(6);
        x.image(2);
        x.restore(0);
        x.feed(-1);
        x.strip();
        due("ACTS", x.count(7), 1);
        due("undo()", x.undo(), 0);
        due("undo()", x.undo(), NONE);
    }

    private static void flexRefused() {
        CHECK.says("A FLEX to a side: FRONT then. BAD; NOT: no STRIP, it brings none, a TORN one.");
        FlexedFaces none = new FlexedFaces();
        due("flex(0), no STRIP", none.flex(0), NOT);
        due("flex(1), no STRIP", none.flex(1), NOT);
        due("flex(-1), BAD comes ahead of NOT", none.flex(-1), BAD);
        due("flex(2), BAD comes ahead of NOT", none.flex(2), BAD);
        FlexedFaces x = Check.of("xp01,p01,p01;-;01");
        due("flex(0), it brings none", x.flex(0), NOT);
        due("flex(-1)", x.flex(-1), BAD);
        due("flex(2), a TURN is none", x.flex(2), BAD);
        due("flex(least)", x.flex(LEAST), BAD);
        due("flex(most)", x.flex(MOST), BAD);
        due("nothing changed", x.count(1) + x.count(3) + x.count(7), 0);
        for (int k = 0; k < 3; k++) {
            due("flex(1)", x.flex(1), 2 - k);
        }
        due("flex(1), a TORN one", x.flex(1), NOT);
        due("FRONT", x.count(1), 0);
        due("BACK", x.count(2), 1);
        due("EFFORT", x.count(3), 6);
        due("ACTS", x.count(7), 3);
        due("SHOWN", x.picture(2, 4), 1);
        due("WEAR", x.picture(2, 3), 1);
    }

    private static void turnRefused() {
        CHECK.says("A TURN: FRONT then. NOT: no STRIP.");
        due("turn(), no STRIP", new FlexedFaces().turn(), NOT);
        FlexedFaces x = Check.of("xp01,p01,p01;-;01");
        for (int k = 0; k < 3; k++) {
            x.flex(1);
        }
        due("all TORN", x.count(5), 7);
        due("turn(), BACK being TORN", x.turn(), 1);
        due("turn()", x.turn(), 0);
        due("SHOWN", x.picture(1, 4), 1);
        due("WEAR", x.picture(1, 3), 1);
    }

    private static void refoldTaken() {
        CHECK.says("the two PICTURES that make THREES with it are joined in place of its own");
        FlexedFaces four = Check.of("xp09,p09,p09,p09;02;01");
        due("refold(0, 2) of four", four.refold(0, 2), 13);
        due("LINKED to 0", four.picture(0, 6), 0b1010);
        due("LINKED to 1", four.picture(1, 6), 0b1101);
        due("refold(3, 1) of four", four.refold(3, 1), 2);
        due("LINKED to 0", four.picture(0, 6), 0b1110);
        due("LINKED to 1", four.picture(1, 6), 0b0101);
        CHECK.says("the lesser one times 10, and the other one");
        FlexedFaces x = Check.of(Texts.fanned(8, "p09", "01"));
        due("refold(0, 6)", x.refold(0, 6), 57);
        due("refold(7, 5)", x.refold(7, 5), 6);
        due("refold(6, 0)", x.refold(6, 0), 57);
        due("refold(0, 5)", x.refold(0, 5), 47);
        due("refold(0, 2)", x.refold(0, 2), 13);
        due("refold(1, 3)", x.refold(1, 3), 2);
        due("ACTS", x.count(7), 6);
    }

    private static void refoldRefused() {
        CHECK.says("BAD (the same, too); NOT: there is no such FOLD");
        FlexedFaces none = new FlexedFaces();
        due("refold(0, 2), no STRIP", none.refold(0, 2), BAD);
        due("refold(0, 0), no STRIP", none.refold(0, 0), BAD);
        for (int n = 3; n <= 8; n++) {
            FlexedFaces x = Check.of(Texts.fanned(n, "p09", "01"));
            due("refold(0, " + n + ")", x.refold(0, n), BAD);
            due("refold(" + n + ", 0)", x.refold(n, 0), BAD);
            due("refold(-1, 2)", x.refold(-1, 2), BAD);
            due("refold(2, -1)", x.refold(2, -1), BAD);
            due("refold(most, least)", x.refold(MOST, LEAST), BAD);
            for (int p = 0; p < n; p++) {
                due("refold, the same", x.refold(p, p), BAD);
                due("refold, neighbours", x.refold(p, (p + 1) % n), NOT);
                due("refold, neighbours", x.refold((p + 1) % n, p), NOT);
            }
            for (int p = 3; p < n; p++) {
                due("refold(1, " + p + "), not LINKED", x.refold(1, p), NOT);
            }
            due("no ACT", x.count(7), 0);
        }
    }

    private static void refoldOfFrontAndBack() {
        CHECK.says("NOT: .. FRONT and BACK are these");
        FlexedFaces x = Check.of(SIX);
        due("refold(0, 2)", x.refold(0, 2), NOT);
        due("refold(2, 0)", x.refold(2, 0), NOT);
        x.turn();
        due("refold(0, 2), turned", x.refold(0, 2), NOT);
        due("refold(2, 0), turned", x.refold(2, 0), NOT);
        due("refold(2, 4), one of them is FRONT", x.refold(2, 4), 3);
        due("refold(0, 4), one of them is BACK", x.refold(0, 4), 35);
        x.flex(1);
        due("FRONT 1", x.count(1), 1);
        due("BACK 2", x.count(2), 2);
        due("refold(0, 2), one of them is BACK", x.refold(0, 2), 13);
    }

    private static void mendZeroAtLeast() {
        CHECK.says("a PICTURE is MENDED: WEAR 2 less (0 at least)");
        int[] then = {NOT, 0, 0, 1, 2, 3, 4, 5, 6, 7};
        for (int wear = 0; wear < then.length; wear++) {
            FlexedFaces x = Check.of("xs01,s01,p09;-;01");
            for (int k = 0; k < wear; k++) {
                x.flex(1);
                x.flex(1);
                x.flex(1);
            }
            due("WEAR", x.picture(2, 3), wear);
            due("mend(2), WEAR " + wear, x.mend(2), then[wear]);
            due("WEAR then", x.picture(2, 3), Math.max(0, then[wear]));
        }
    }

    private static void mendOfTheMost() {
        CHECK.says("MENDED: WEAR then.");
        FlexedFaces x = Check.of("xs01,s01,t09;-;01");
        for (int k = 0; k < 15; k++) {
            x.flex(1);
        }
        due("WEAR 10, BEARS 9", x.picture(2, 3), 10);
        due("TORN", x.picture(2, 7), 1);
        due("mend(2)", x.mend(2), 8);
        due("TORN no more", x.picture(2, 7), 0);
        due("flex(1)", x.flex(1), 2);
        int[] then = {8, 6, 4, 2, 0, NOT};
        for (int want : then) {
            due("mend(2)", x.mend(2), want);
        }
        due("SHOWN stays", x.picture(2, 4), 6);
    }

    private static void mendRefused() {
        CHECK.says("BAD; NOT: it is 0.");
        due("mend(0), no STRIP", new FlexedFaces().mend(0), BAD);
        for (int n = 3; n <= 8; n++) {
            FlexedFaces x = Check.of(Texts.fanned(n, "p09", "01"));
            due("mend(-1)", x.mend(-1), BAD);
            due("mend(" + n + ")", x.mend(n), BAD);
            due("mend(0)", x.mend(0), NOT);
            due("mend(" + (n - 1) + ")", x.mend(n - 1), NOT);
            due("mend(least)", x.mend(LEAST), BAD);
            due("mend(most)", x.mend(MOST), BAD);
            due("no ACT", x.count(7), 0);
        }
        FlexedFaces stiff = Check.of("xs01,s01,s01;-;01");
        stiff.flex(1);
        due("mend(2), a STIFF one has no WEAR", stiff.mend(2), NOT);
    }

    private static void undoNone() {
        CHECK.says("The latest ACT is undone: how many more can be. NONE: none can.");
        FlexedFaces x = new FlexedFaces();
        due("undo(), no STRIP", x.undo(), NONE);
        Check.read(x, SIX);
        due("undo(), no ACT", x.undo(), NONE);
        x.turn();
        due("undo(), one ACT", x.undo(), 0);
        due("undo(), no ACT more", x.undo(), NONE);
        x.turn();
        Check.read(x, "xp01");
        due("undo() behind a FAULT", x.undo(), 0);
        x.turn();
        Check.read(x, SIX);
        due("undo() behind another STRIP", x.undo(), NONE);
        x.image(0);
        due("undo(), an IMAGE is no ACT", x.undo(), NONE);
    }

    private static void imageRefused() {
        CHECK.says("An IMAGE (0, 1) is kept of the STRIP: FRONT. BAD; NOT: no STRIP.");
        FlexedFaces x = new FlexedFaces();
        due("image(0), no STRIP", x.image(0), NOT);
        due("image(1), no STRIP", x.image(1), NOT);
        due("image(-1), BAD comes ahead of NOT", x.image(-1), BAD);
        due("image(2), BAD comes ahead of NOT", x.image(2), BAD);
        Check.read(x, SIX);
        due("restore(0), what was refused kept none", x.restore(0), NOT);
        due("restore(1), what was refused kept none", x.restore(1), NOT);
        due("image(-1)", x.image(-1), BAD);
        due("image(2)", x.image(2), BAD);
        due("image(least)", x.image(LEAST), BAD);
        due("image(most)", x.image(MOST), BAD);
        x.flex(0);
        due("image(0)", x.image(0), 1);
        due("image(1)", x.image(1), 1);
        due("ACTS stay", x.count(7), 1);
    }

    private static void imageKeptAnew() {
        CHECK.says("An IMAGE (0, 1) is kept of the STRIP");
        FlexedFaces x = Check.of(SIX);
        due("image(0)", x.image(0), 0);
        due("image(1)", x.image(1), 0);
        x.flex(0);
        due("image(0) in place of the one before", x.image(0), 1);
        x.flex(0);
        due("restore(1)", x.restore(1), 0);
        due("EFFORT", x.count(3), 0);
        due("restore(0)", x.restore(0), 1);
        due("EFFORT", x.count(3), 1);
    }

    private static void restoreRefused() {
        CHECK.says("BAD; NOT: none was kept.");
        FlexedFaces x = new FlexedFaces();
        due("restore(-1), BAD comes ahead of NOT", x.restore(-1), BAD);
        due("restore(2), BAD comes ahead of NOT", x.restore(2), BAD);
        due("restore(0), none was kept", x.restore(0), NOT);
        due("restore(1), none was kept", x.restore(1), NOT);
        Check.read(x, SIX);
        x.flex(0);
        x.image(1);
        due("restore(0), the other one was kept", x.restore(0), NOT);
        due("refused: ACTS", x.count(7), 1);
        due("restore(-1)", x.restore(-1), BAD);
        due("restore(2)", x.restore(2), BAD);
        due("restore(least)", x.restore(LEAST), BAD);
        due("restore(most)", x.restore(MOST), BAD);
        due("refused: ACTS", x.count(7), 1);
        due("restore(1)", x.restore(1), 1);
    }

    private static void restoreUndoesNothing() {
        CHECK.says("The STRIP is as the IMAGE was (nothing can be undone then): FRONT.");
        FlexedFaces x = Check.of(SIX);
        x.flex(0);
        x.image(0);
        x.flex(0);
        x.mend(1);
        x.refold(0, 4);
        due("restore(0)", x.restore(0), 1);
        int[] counts = {6, 1, 0, 1, 2, 2, 1, 0, 0};
        for (int what = 0; what < counts.length; what++) {
            due("count(" + what + ")", x.count(what), counts[what]);
        }
        due("LINKED", x.picture(0, 6), 54);
        due("undo()", x.undo(), NONE);
        due("FRONT", x.count(1), 1);
        x.turn();
        due("undo() of what came then", x.undo(), 0);
        due("undo()", x.undo(), NONE);
        Check.read(x, "xs19,s19,s19;-;20");
        due("restore(0), of more PICTURES", x.restore(0), 1);
        due("PICTURES", x.count(0), 6);
    }
}
