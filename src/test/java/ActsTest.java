/** Promises 7 to 13: acts, what undoes them, and images. */
public final class ActsTest {
    private static final Check CHECK = new Check("ActsTest");
    private static final String SIX = "xp32,g51,t72,s19,b49,p63;02,24,04;02";
    private static final int BAD = -1, NOT = -2, NONE = -4;

    private static void due(String call, long got, long want) {
        CHECK.due(call, got, want);
    }

    public static void main(String[] args) {
        flexing();
        wearing();
        boardGrowsEasy();
        turning();
        refolding();
        mending();
        undoingEachAct();
        undoingAtMost24();
        images();
        CHECK.end();
    }

    private static void flexing() {
        FlexedFaces x = Check.of(SIX);
        due("flex(2)", x.flex(2), BAD);
        due("flex(-1)", x.flex(-1), BAD);
        due("flex(0)", x.flex(0), 1);
        due("BACK then", x.count(2), 0);
        due("flex(1), none there", x.flex(1), NOT);
        due("flex(0)", x.flex(0), 2);
        due("flex(0)", x.flex(0), 0);
        due("flex(0), a TORN one", x.flex(0), NOT);
        due("refused: FRONT", x.count(1), 0);
        due("refused: BACK", x.count(2), 2);
        due("refused: ACTS", x.count(7), 3);
        due("refused: EFFORT", x.count(3), 5);
        due("flex(1)", x.flex(1), 4);
        due("EFFORT", x.count(3), 9);
        due("SHOWN", x.count(4), 23);
    }

    /** Round a ring of three, to the LEFT: 2, 1, 0, 2, .. */
    private static void wearing() {
        FlexedFaces x = Check.of("xg09,t05,s01;-;01");
        int[] efforts = {4, 6, 7, 11, 13, 14, 18, 20, 21, 25};
        for (int k = 0; k < efforts.length; k++) {
            due("flex, " + k, x.flex(1), 2 - k % 3);
            due("EFFORT, " + k, x.count(3), efforts[k]);
        }
        due("WEAR of a GLOSSY one", x.picture(0, 3), 3);
        due("WEAR of a THIN one", x.picture(1, 3), 6);
        due("WEAR of a STIFF one", x.picture(2, 3), 0);
        due("TORN: more than it BEARS", x.picture(1, 7), 1);
        due("not TORN", x.picture(2, 7), 0);
        due("TORN ones", x.count(5), 2);
        due("WEAR of all", x.count(6), 9);
        due("flex to the TORN one", x.flex(1), NOT);
        FlexedFaces y = Check.of("xp02,p02,p02;-;01");
        for (int k = 0; k < 6; k++) {
            due("flex, " + k, y.flex(1), 2 - k % 3);
        }
        due("TORN: as much as it BEARS", y.count(5), 7);
        due("flex, all TORN", y.flex(1), NOT);
        due("turn, all TORN", y.turn(), 1);
    }

    private static void boardGrowsEasy() {
        FlexedFaces x = Check.of("xb01,b01,b01;-;01");
        for (int k = 0; k < 303; k++) {
            due("flex, " + k, x.flex(1), 2 - k % 3);
        }
        due("EFFORT", x.count(3), 12 + 9 + 6 + 294);
        due("SHOWN 99 at most", x.picture(0, 4), 99);
        due("EFFORT now", x.picture(0, 5), 1);
        due("undo", x.undo(), 23);
        due("SHOWN 99 as it was", x.picture(0, 4), 99);
        due("EFFORT as it was", x.count(3), 320);
    }

    private static void turning() {
        FlexedFaces x = Check.of(SIX);
        due("turn", x.turn(), 2);
        due("BACK", x.count(2), 0);
        due("EFFORT", x.count(3), 1);
        due("SHOWN", x.count(4), 0);
        due("WEAR", x.count(6), 0);
        due("turn", x.turn(), 0);
        due("EFFORT", x.count(3), 2);
        due("ACTS", x.count(7), 2);
    }

    private static void refolding() {
        FlexedFaces x = Check.of(SIX);
        due("refold, FRONT and BACK", x.refold(0, 2), NOT);
        due("refold, BACK and FRONT", x.refold(2, 0), NOT);
        due("refold, neighbours", x.refold(0, 5), NOT);
        due("refold, neighbours", x.refold(3, 4), NOT);
        due("refold, not LINKED", x.refold(1, 4), NOT);
        due("refold, the same", x.refold(4, 4), BAD);
        due("refold, no PICTURE", x.refold(0, 6), BAD);
        due("refold, no PICTURE", x.refold(-1, 2), BAD);
        due("refused: ACTS", x.count(7), 0);
        due("refold(4, 2)", x.refold(4, 2), 3);
        due("LINKED then", x.picture(0, 6), 62);
        due("LINKED then", x.picture(2, 6), 11);
        due("LINKED then", x.picture(3, 6), 21);
        due("LINKED then", x.picture(4, 6), 41);
        due("brings(1) then", x.brings(1), 3);
        due("refold(0, 4)", x.refold(0, 4), 35);
        due("refold(3, 5)", x.refold(3, 5), 4);
        due("refold(0, 3)", x.refold(0, 3), 24);
        due("EFFORT", x.count(3), 0);
        due("ACTS", x.count(7), 4);
        due("a FOLD of three", Check.of("xp01,p01,p01;-;01").refold(1, 2), NOT);
    }

    private static void mending() {
        FlexedFaces x = Check.of("xp09,p09,t09;-;01");
        for (int k = 0; k < 9; k++) {
            x.flex(1);
        }
        due("mend(3)", x.mend(3), BAD);
        due("mend(-1)", x.mend(-1), BAD);
        due("mend, WEAR 3", x.mend(0), 1);
        due("mend, WEAR 1", x.mend(0), 0);
        due("mend, WEAR 0", x.mend(0), NOT);
        due("mend, WEAR 6", x.mend(2), 4);
        due("ACTS", x.count(7), 12);
        due("undo", x.undo(), 11);
        due("WEAR as it was", x.picture(2, 3), 6);
        due("undo", x.undo(), 10);
        due("WEAR as it was", x.picture(0, 3), 1);
        FlexedFaces torn = Check.of("xp01,p01,p01;-;01");
        torn.flex(1);
        due("TORN", torn.count(5), 4);
        due("mend", torn.mend(2), 0);
        due("TORN no more", torn.count(5), 0);
    }

    private static void undoingEachAct() {
        FlexedFaces x = Check.of(SIX);
        x.flex(0);
        x.turn();
        x.refold(2, 4);
        x.mend(1);
        x.flex(1);
        due("undo a FLEX", x.undo(), 4);
        due("FRONT", x.count(1), 0);
        due("BACK", x.count(2), 1);
        due("EFFORT", x.count(3), 2);
        due("SHOWN", x.count(4), 2);
        due("undo what was MENDED", x.undo(), 3);
        due("WEAR", x.picture(1, 3), 1);
        due("undo a FOLD", x.undo(), 2);
        due("LINKED", x.picture(2, 6), 27);
        due("LINKED", x.picture(3, 6), 20);
        due("undo a TURN", x.undo(), 1);
        due("FRONT", x.count(1), 1);
        due("EFFORT", x.count(3), 1);
        due("undo a FLEX", x.undo(), 0);
        due("SHOWN", x.count(4), 0);
        due("WEAR", x.count(6), 0);
        due("undo", x.undo(), NONE);
        due("FRONT as at first", x.count(1), 0);
        due("BACK as at first", x.count(2), 2);
    }

    private static void undoingAtMost24() {
        FlexedFaces x = Check.of(SIX);
        x.flex(0);
        for (int k = 0; k < 30; k++) {
            x.turn();
        }
        due("ACTS", x.count(7), 24);
        for (int k = 23; k >= 0; k--) {
            due("undo", x.undo(), k);
        }
        due("undo", x.undo(), NONE);
        due("EFFORT", x.count(3), 7);
        due("SHOWN", x.count(4), 2);
        x.turn();
        due("undo again", x.undo(), 0);
    }

    private static void images() {
        FlexedFaces x = Check.of(SIX);
        due("image(2)", x.image(2), BAD);
        due("image(-1)", x.image(-1), BAD);
        due("restore(2)", x.restore(2), BAD);
        due("restore(-1)", x.restore(-1), BAD);
        due("restore(0), none kept", x.restore(0), NOT);
        x.flex(0);
        due("image(0)", x.image(0), 1);
        due("ACTS stay", x.count(7), 1);
        due("restore(1), none kept", x.restore(1), NOT);
        x.refold(2, 4);
        x.flex(0);
        x.mend(1);
        due("restore(0)", x.restore(0), 1);
        due("BACK", x.count(2), 0);
        due("EFFORT", x.count(3), 1);
        due("WEAR", x.picture(1, 3), 1);
        due("LINKED", x.picture(2, 6), 27);
        due("ACTS", x.count(7), 0);
        due("undo", x.undo(), NONE);
        x.turn();
        x.mend(1);
        due("restore(0) again", x.restore(0), 1);
        due("the IMAGE is as it was", x.picture(1, 3), 1);
        Check.read(x, "xs19,s19,s19;-;20");
        due("image(1)", x.image(1), 2);
        due("restore(0), of another STRIP", x.restore(0), 1);
        due("PICTURES", x.count(0), 6);
        due("restore(1)", x.restore(1), 2);
        due("PICTURES", x.count(0), 3);
    }
}
