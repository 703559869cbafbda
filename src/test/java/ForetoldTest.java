/** Promises 14 to 20: what is foretold. */
public final class ForetoldTest {
    private static final Check CHECK = new Check("ForetoldTest");
    private static final int BAD = -1, NONE = -4;

    private static void due(String call, long got, long want) {
        CHECK.due(call, got, want);
    }

    public static void main(String[] args) {
        fork();
        wayOfLike();
        wayByEffort();
        tours();
        rounds();
        hands();
        duels();
        decades();
        nothingChanges();
        CHECK.end();
    }

    /** FRONT 0, BACK 2, both TORN; 1 on the RIGHT, 3 on the LEFT can come, but from one there is no way to the other. */
    private static FlexedFaces forked() {
        FlexedFaces x = Check.of("xp11,p29,p31,p49;02;02");
        x.flex(0);
        x.flex(0);
        x.flex(0);
        return x;
    }

    private static void fork() {
        FlexedFaces x = forked();
        due("TORN", x.count(5), 5);
        due("reach", x.reach(), 15);
        due("tour: one keeps from another", x.tour(), NONE);
        due("way(1, -1)", x.way(1, -1), 1);
        due("way(1, 0)", x.way(1, 0), 0);
        due("way(3, -2)", x.way(3, -2), 2);
        due("way(3, 0)", x.way(3, 0), 1);
        due("way(3, 1)", x.way(3, 1), NONE);
        due("way(2, -2)", x.way(2, -2), 1);
        due("way(2, 0)", x.way(2, 0), 2);
        due("way(0, -2)", x.way(0, -2), 0);
        due("way(0, -1)", x.way(0, -1), 0);
        due("way(0, 0)", x.way(0, 0), NONE);
        due("way(0, -3)", x.way(0, -3), BAD);
        due("way(4, 0)", x.way(4, 0), BAD);
        due("way(-1, 0)", x.way(-1, 0), BAD);
        due("way(1, far)", x.way(1, Integer.MAX_VALUE), NONE);
        due("way(1, far)", x.way(1, Integer.MIN_VALUE), BAD);
        due("round(0)", x.round(0), 1);
        due("round(1)", x.round(1), 2);
        x.flex(0);
        due("reach then", x.reach(), 3);
        due("tour then", x.tour(), 1);
        due("way(2, -1) then", x.way(2, -1), NONE);
        due("way(2, -2) then", x.way(2, -2), NONE);
        due("way(3, 0) then", x.way(3, 0), NONE);
    }

    /** RIGHT RIGHT LEFT and TURN LEFT RIGHT take 3 each. */
    private static void wayOfLike() {
        FlexedFaces x = Check.of("xg09,g09,g09,g09;02;10");
        int[] want = {3, 3, 0, 0, 1, NONE};
        for (int k = -2; k < 4; k++) {
            due("way(3, " + k + ")", x.way(3, k), want[k + 2]);
        }
    }

    /** EFFORT is what each PICTURE takes now: a BOARD that was SHOWN takes less. */
    private static void wayByEffort() {
        FlexedFaces x = Check.of("xg09,g09,s09,g09;02;01");
        due("way(3, -2): over the STIFF one", x.way(3, -2), 5);
        due("way(3, -1)", x.way(3, -1), 2);
        FlexedFaces y = Check.of("xg09,g09,b09,g09;02;01");
        due("a BOARD at first", y.way(2, -2), 4);
        y.flex(1);
        y.flex(0);
        y.flex(0);
        due("a BOARD, as now", y.count(1), 0);
        due("a BOARD, as now", y.way(2, -2), y.picture(2, 5));
        due("a BOARD, as now", y.way(2, -2), 3);
    }

    private static void tours() {
        FlexedFaces x = Check.of("xp09,p09,p09;-;01");
        due("three: reach", x.reach(), 7);
        due("three: tour", x.tour(), 2);
        due("four: tour", Check.of("xp09,p09,p09,p09;02;02").tour(), 4);
        due("four: reach", Check.of("xp09,p09,p09,p09;02;02").reach(), 15);
    }

    private static void rounds() {
        FlexedFaces x = Check.of("xp09,p09,p09,p09;02;01");
        // 01 R: LEFT 20 L: 12 R: LEFT 01 L: 20 R: 32 L: RIGHT 03 R: 20 L, as behind the first MOVE
        due("round(0)", x.round(0), 1);
        due("round(2)", x.round(2), BAD);
        due("round(-1)", x.round(-1), BAD);
        due("round(1)", x.round(1), 6);
        // 02 R: 10 L: RIGHT 21 R: 02 L: LEFT 30 R: LEFT 23 L: 02 R
        due("round(0) of both THREES", Check.of("xp09,p09,p09,p09;02;02").round(0), 0);
        due("round(1) of both THREES", Check.of("xp09,p09,p09,p09;02;02").round(1), 6);
    }

    private static void hands() {
        FlexedFaces x = Check.of("xp11,p29,p31,p49;02;02");
        odds(x, 1, 1, 3, 3, 10);
        odds(x, 3, 1, 3, 7, 10);
        odds(x, 3, 1, 4, 3, 5);
        odds(x, 2, 1, 4, 0, 1);
        odds(x, 0, 0, 5, 1, 1);
        odds(x, 1, 0, 5, 0, 1);
        odds(x, 1, 1, 10, 1, 1);
        odds(x, 1, 1, 0, 0, 1);
        due("hand(4, ..)", x.hand(4, 1, 5, 0), BAD);
        due("hand(-1, ..)", x.hand(-1, 1, 5, 0), BAD);
        due("hand, n 7", x.hand(0, 7, 5, 0), BAD);
        due("hand, n -1", x.hand(0, -1, 5, 0), BAD);
        due("hand, q 11", x.hand(0, 1, 11, 0), BAD);
        due("hand, q -1", x.hand(0, 1, -1, 0), BAD);
        due("hand, what 2", x.hand(0, 1, 5, 2), BAD);
        due("hand, what -1", x.hand(0, 1, 5, -1), BAD);
        // three to the LEFT tear all, three TURNS come then
        FlexedFaces torn = Check.of("xp11,p11,p11;-;01");
        odds(torn, 1, 6, 0, 1, 1);
        odds(torn, 0, 6, 0, 0, 1);
        // RIGHT is none here: a TURN
        odds(torn, 1, 1, 7, 7, 10);
        odds(torn, 2, 1, 7, 3, 10);
    }

    private static void odds(FlexedFaces x, int picture, int n, int q, int above, int below) {
        due("hand(" + picture + ", " + n + ", " + q + ", 0)", x.hand(picture, n, q, 0), above);
        due("hand(" + picture + ", " + n + ", " + q + ", 1)", x.hand(picture, n, q, 1), below);
    }

    private static void duels() {
        FlexedFaces x = Check.of("xp19,p29,p39;-;01");
        int[] want = {100, 103, 101, 102};
        for (int n = 0; n < want.length; n++) {
            due("duel(" + n + ")", x.duel(n), want[n]);
        }
        due("duel(7)", x.duel(7), BAD);
        due("duel(-1)", x.duel(-1), BAD);
        // to bring 2 would let the other one bring 0, worth 9
        FlexedFaces y = Check.of("xp91,p01,p01;-;10");
        due("duel: a TURN is better", y.duel(2), 100);
        FlexedFaces torn = Check.of("xp91,p91,p91;-;01");
        torn.flex(1);
        torn.flex(1);
        torn.flex(1);
        due("duel, all TORN", torn.duel(6), 100);
        // 9 each by turns while it bears: +9 -9 +9, then nothing
        due("duel by WEAR", Check.of("xp91,p91,p91;-;01").duel(5), 109);
    }

    private static void decades() {
        FlexedFaces x = Check.of("xp19,p29,p39;-;01");
        due("n 0: EFFORT", x.decades(0, 1, 0), 0);
        due("n 0: FRONT", x.decades(0, 1, 1), 0);
        due("SEED 1, n 1: RIGHT is none, a TURN", x.decades(1, 1, 0), 1);
        due("SEED 1, n 1: FRONT", x.decades(1, 1, 1), 1);
        due("SEED 2, n 1: LEFT", x.decades(1, 2, 0), 2);
        due("SEED 2, n 1: FRONT", x.decades(1, 2, 1), 2);
        due("SEED 3, n 1: a TURN", x.decades(1, 3, 1), 1);
        due("SEED 1, n 2: EFFORT", x.decades(2, 1, 0), 3);
        due("SEED 1, n 2: FRONT", x.decades(2, 1, 1), 2);
        x.flex(1);
        x.undo();
        x.turn();
        x.turn();
        due("EFFORT of all, together", x.decades(2, 1, 0), 5);
        due("n 61", x.decades(61, 1, 0), BAD);
        due("n -1", x.decades(-1, 1, 0), BAD);
        due("SEED 0", x.decades(1, 0, 0), BAD);
        due("SEED 1000000", x.decades(1, 1000000, 0), BAD);
        due("what 2", x.decades(1, 1, 2), BAD);
        due("what -1", x.decades(1, 1, -1), BAD);
        FlexedFaces y = Check.of("xp01,p01,p01;-;01");
        // LEFT, RIGHT, RIGHT, RIGHT: 2 comes, a TURN (none is there), 1 comes, a TURN (2 is TORN)
        due("WEAR goes on: EFFORT", y.decades(4, 2, 0), 6);
        due("WEAR goes on: FRONT", y.decades(4, 2, 1), 0);
    }

    private static void nothingChanges() {
        FlexedFaces x = Check.of("xp11,t29,b31,g49;02;02");
        x.flex(0);
        for (int k = 0; k < 3; k++) {
            x.reach();
            x.way(3, 1);
            x.tour();
            x.round(0);
            x.hand(2, 6, 5, 0);
            x.duel(6);
            x.decades(60, 17, 0);
        }
        int[] want = {4, 1, 0, 2, 2, 0, 2, 1, 0};
        for (int what = 0; what < want.length; what++) {
            due("foretold: count(" + what + ")", x.count(what), want[what]);
        }
        due("foretold: SHOWN", x.picture(2, 4), 0);
    }
}
