/** Promises 21 to 27: sheets, and what is read from them. */
public final class SheetsTest {
    private static final Check CHECK = new Check("SheetsTest");
    private static final String FOUR = "xp11,p29,p31,p49;02;02";
    private static final int BAD = -1, NOT = -2, NONE = -4, NULL = -11, CAST = -12, INDEX = -13, SIZE = -14;

    private static void due(String call, long got, long want) {
        CHECK.due(call, got, want);
    }

    public static void main(String[] args) {
        sheets();
        items();
        copies();
        logs();
        foldingsCounted();
        foldingsRefused();
        kindsFound();
        kindsRefused();
        CHECK.end();
    }

    private static void sheets() {
        FlexedFaces x = new FlexedFaces();
        due("sheet(0, 0, 24)", x.sheet(0, 0, 24), 24);
        due("sheet(3, 3, 0)", x.sheet(3, 3, 0), 0);
        due("sheet(1, 1, 25)", x.sheet(1, 1, 25), BAD);
        due("sheet(1, 1, -1)", x.sheet(1, 1, -1), SIZE);
        due("sheet(1, 1, least)", x.sheet(1, 1, Integer.MIN_VALUE), SIZE);
        due("sheet(4, 1, -1)", x.sheet(4, 1, -1), BAD);
        due("sheet(-1, 1, 1)", x.sheet(-1, 1, 1), BAD);
        due("sheet(1, 4, 1)", x.sheet(1, 4, 1), BAD);
        due("sheet(1, -1, 1)", x.sheet(1, -1, 1), BAD);
        due("drop, refused", x.drop(1), NULL);
        due("drop(3)", x.drop(3), 0);
        due("sheet, refused, leaves it", x.sheet(0, 2, -1), SIZE);
        due("item", x.item(0, 0, 23, 4), 4);
        due("sheet anew", x.sheet(0, 0, 24), 24);
        due("items are 0 again", sum(x, 0, 0, 24), 0);
        due("drop(0)", x.drop(0), 24);
        due("drop(0) again", x.drop(0), NULL);
        due("drop(4)", x.drop(4), BAD);
        due("drop(-1)", x.drop(-1), BAD);
    }

    private static long sum(FlexedFaces x, int sheet, int lane, int n) {
        long all = 0;
        for (int k = 0; k < n; k++) {
            all += read(x, sheet, lane, k);
        }
        return all;
    }

    /** An item 1, 2 or 4 (else 0), read without changing it: kinds takes a copy of it as an EFFORT. */
    private static int read(FlexedFaces x, int sheet, int lane, int i) {
        x.sheet(3, lane, 2);
        x.copy(sheet, i, 3, 1, 1);
        switch (x.kinds(3, lane, 0, 1, 0)) {
            case 4: return 1;
            case 10: return 2;
            case 48: return 4;
            default: return 0;
        }
    }

    private static void items() {
        FlexedFaces x = new FlexedFaces();
        for (int lane = 0; lane < 4; lane++) {
            x.sheet(lane, lane, 2);
        }
        long v = 0x1234_5678_9abc_def0L;
        due("a byte", x.item(0, 0, 0, v), (byte) 0xf0);
        due("a short", x.item(1, 1, 0, v), (short) 0xdef0);
        due("an int", x.item(2, 2, 0, v), 0x9abc_def0);
        due("a long", x.item(3, 3, 0, v), v);
        due("a byte", x.item(0, 0, 1, 128), -128);
        due("a short", x.item(1, 1, 1, 32768), -32768);
        due("an int", x.item(2, 2, 1, 2147483648L), -2147483648L);
        due("a long", x.item(3, 3, 1, Long.MIN_VALUE), Long.MIN_VALUE);
        due("item(4, ..)", x.item(4, 0, 0, 1), BAD);
        due("item(-1, ..)", x.item(-1, 0, 0, 1), BAD);
        due("item, LANE 4", x.item(0, 4, 0, 1), BAD);
        due("item, LANE -1", x.item(0, -1, 0, 1), BAD);
        due("item, another LANE", x.item(0, 1, 9, 1), CAST);
        due("item 2", x.item(0, 0, 2, 1), INDEX);
        due("item -1", x.item(0, 0, -1, 1), INDEX);
        due("item far", x.item(0, 0, Integer.MAX_VALUE, 1), INDEX);
        x.drop(0);
        due("item of nothing", x.item(0, 1, 9, 1), NULL);
        x.sheet(0, 2, 0);
        due("item of an empty row", x.item(0, 2, 0, 1), INDEX);
    }

    private static void copies() {
        FlexedFaces x = new FlexedFaces();
        Check.fill(x, 0, 2, 1, 2, 4, 0, 0);
        x.sheet(1, 2, 3);
        x.sheet(2, 1, 3);
        due("copy, forwards over itself", x.copy(0, 0, 0, 1, 4), 4);
        int[] want = {1, 1, 2, 4, 0};
        for (int k = 0; k < want.length; k++) {
            due("item " + k, read(x, 0, 2, k), want[k]);
        }
        due("copy, backwards over itself", x.copy(0, 1, 0, 0, 4), 4);
        int[] then = {1, 2, 4, 0, 0};
        for (int k = 0; k < then.length; k++) {
            due("item " + k, read(x, 0, 2, k), then[k]);
        }
        due("copy to another", x.copy(0, 1, 1, 1, 2), 2);
        due("item 0", read(x, 1, 2, 0), 0);
        due("item 1", read(x, 1, 2, 1), 2);
        due("item 2", read(x, 1, 2, 2), 4);
        x.drop(3);
        due("copy none at the end", x.copy(0, 5, 1, 3, 0), 0);
        due("copy none behind the end", x.copy(0, 6, 1, 0, 0), INDEX);
        due("copy none behind the end", x.copy(0, 0, 1, 4, 0), INDEX);
        due("copy too many", x.copy(0, 0, 1, 0, 4), INDEX);
        due("copy too many", x.copy(1, 0, 0, 0, 4), INDEX);
        due("copy, i -1", x.copy(0, -1, 1, 0, 1), INDEX);
        due("copy, j -1", x.copy(0, 0, 1, -1, 1), INDEX);
        due("copy, n -1", x.copy(0, 0, 1, 0, -1), INDEX);
        due("copy, far", x.copy(0, Integer.MAX_VALUE, 1, Integer.MAX_VALUE, Integer.MAX_VALUE), INDEX);
        due("copy, far", x.copy(0, Integer.MAX_VALUE, 1, 0, 1), INDEX);
        due("copy, far", x.copy(0, 0, 1, Integer.MAX_VALUE, 1), INDEX);
        due("copy, far", x.copy(0, Integer.MIN_VALUE, 1, 0, Integer.MIN_VALUE), INDEX);
        due("copy, unlike LANES", x.copy(0, 0, 2, 0, -1), CAST);
        due("copy from nothing", x.copy(3, 0, 2, 0, 1), NULL);
        due("copy to nothing", x.copy(2, 0, 3, 0, 1), NULL);
        due("copy from 4", x.copy(4, 0, 3, 0, 1), BAD);
        due("copy to -1", x.copy(3, 0, -1, 0, 1), BAD);
    }

    private static void logs() {
        FlexedFaces x = new FlexedFaces();
        x.sheet(0, 1, 6);
        due("log, no STRIP", x.log(0, 1, 0, 1), NOT);
        due("log, no STRIP, but INDEX first", x.log(0, 1, 0, 7), INDEX);
        Check.read(x, FOUR);
        due("log", x.log(0, 1, 1, 5), 5);
        // 02 R: 10 L: RIGHT 21 R: 02 L: LEFT 30 R: 23
        int[] want = {0, 1, 2, 0, 3, 2};
        for (int k = 0; k < want.length; k++) {
            due("item " + k, readSmall(x, 0, 1, k), want[k]);
        }
        due("log behind the end", x.log(0, 1, 2, 5), INDEX);
        due("log, i -1", x.log(0, 1, -1, 1), INDEX);
        due("log, far", x.log(0, 1, Integer.MAX_VALUE, 5), INDEX);
        due("log, n 0", x.log(0, 1, 0, 0), BAD);
        due("log, n 25", x.log(0, 1, 0, 25), BAD);
        due("log, another LANE", x.log(0, 2, 0, 9), CAST);
        due("log, nothing", x.log(1, 2, 0, 9), NULL);
        due("log(4, ..)", x.log(4, 2, 0, 9), BAD);
        due("log, LANE 4", x.log(0, 4, 0, 9), BAD);
        x.sheet(2, 0, 24);
        due("log, 24", x.log(2, 0, 0, 24), 24);
        due("FRONT stays", x.count(1), 0);
        due("WEAR stays", x.count(6), 0);
    }

    /** An item from 0 to 3 of the ring of FOUR: by which FRONT a TURN would lead there. */
    private static int readSmall(FlexedFaces x, int sheet, int lane, int i) {
        for (int p = 0; p < 4; p++) {
            x.sheet(3, lane, 4);
            x.item(3, lane, 0, (p + 1) % 4);
            x.item(3, lane, 1, p);
            x.item(3, lane, 2, 2);
            x.copy(sheet, i, 3, 3, 1);
            if (x.foldings(3, lane, 0, 1, 0) == 2) {
                return p;
            }
        }
        return NONE;
    }

    private static void told(FlexedFaces x, int many, int among, int tried, long... items) {
        Check.fill(x, 0, 3, items);
        int n = (items.length - 2) / 2;
        String text = java.util.Arrays.toString(items);
        due("foldings by " + text, x.foldings(0, 3, 0, n, 0), many);
        due("whether among by " + text, x.foldings(0, 3, 0, n, 1), among);
        due("TRY by " + text, x.foldings(0, 3, 0, n, 2), tried);
    }

    private static void foldingsCounted() {
        FlexedFaces x = Check.of(FOUR);
        told(x, 2, 1, 1, 0, 1);
        told(x, 2, 1, 0, 1, 0);
        told(x, 1, 1, 0, 0, 2);
        told(x, 1, 0, 0, 1, 3);
        told(x, 1, 1, 0, 0, 1, 1, 2);
        told(x, 1, 0, 0, 0, 1, 1, 3);
        told(x, 0, 0, NONE, 0, 1, 0, 2);
        told(x, 2, 1, 0, 0, 1, 2, 1);
        told(x, 0, 0, NONE, 0, 1, 2, 0);
        told(x, 1, 1, 0, 0, 1, 1, 2, 1, 1, 2, 2, 0, 0, 2, 2, 0, 3, 2, 2, 2, 3);
        for (int k = 0; k < 3; k++) {
            x.flex(0);
        }
        due("TORN", x.count(5), 5);
        told(x, 1, 1, 0, 0, 1, 1, 2);
        told(Check.of("xp01,p01,p01;-;01"), 1, 1, 0, 2, 0);
        String eight = "xp01,p01,p01,p01,p01,p01,p01,p01;02,03,04,05,06;01";
        told(Check.of(eight), 132, 1, 1, 0, 1);
        told(Check.of(eight), 14, 0, 0, 0, 3, 0, 1);
        told(Check.of("xp01,p01,p01,p01,p01;02,03;01"), 5, 1, 1, 0, 1);
        told(Check.of("xp01,p01,p01,p01,p01,p01;02,03,04;01"), 14, 1, 1, 0, 1);
        told(Check.of("xp01,p01,p01,p01,p01,p01,p01;02,03,04,05;01"), 42, 1, 1, 0, 1);
    }

    private static void foldingsRefused() {
        FlexedFaces x = new FlexedFaces();
        due("no STRIP", x.foldings(0, 0, 0, 0, 0), BAD);
        Check.read(x, FOUR);
        due("nothing", x.foldings(0, 0, 9, 0, 0), NULL);
        Check.fill(x, 0, 3, 9, 0, 1, 1, 2);
        due("from 1 on", x.foldings(0, 3, 1, 1, 0), 1);
        due("another LANE", x.foldings(0, 0, 9, 1, 0), CAST);
        due("too short", x.foldings(0, 3, 1, 2, 0), INDEX);
        due("too short", x.foldings(0, 3, 2, 1, 0), INDEX);
        due("i -1", x.foldings(0, 3, -1, 0, 0), INDEX);
        due("i far", x.foldings(0, 3, Integer.MAX_VALUE, 0, 0), INDEX);
        due("n 9", x.foldings(0, 3, 0, 9, 0), BAD);
        due("n -1", x.foldings(0, 3, 0, -1, 0), BAD);
        due("what 3", x.foldings(0, 3, 0, 0, 3), BAD);
        due("what -1", x.foldings(0, 3, 0, 0, -1), BAD);
        due("SHEET 4", x.foldings(4, 3, 0, 0, 0), BAD);
        due("LANE 4", x.foldings(0, 4, 0, 0, 0), BAD);
        told(x, NOT, NOT, NOT, 4, 1);
        told(x, NOT, NOT, NOT, -1, 1);
        told(x, NOT, NOT, NOT, 1, 4);
        told(x, NOT, NOT, NOT, 1, 1);
        told(x, NOT, NOT, NOT, 0, 1, 3, 0);
        told(x, NOT, NOT, NOT, 0, 1, -1, 0);
        told(x, NOT, NOT, NOT, 0, 1, 0, 4);
        told(x, NOT, NOT, NOT, 0, 1, 0, -1);
        told(x, NOT, NOT, NOT, 0, 4294967297L);
        told(x, NOT, NOT, NOT, 0, 1, 4294967296L, 2);
        told(x, NOT, NOT, NOT, 0, 1, 0, 0, 0, 4);
    }

    private static void pairs(int set, int tried, long... items) {
        FlexedFaces x = new FlexedFaces();
        Check.fill(x, 1, 3, items);
        String text = java.util.Arrays.toString(items);
        due("kinds by " + text, x.kinds(1, 3, 0, items.length / 2, 0), set);
        due("TRY by " + text, x.kinds(1, 3, 0, items.length / 2, 1), tried);
    }

    private static void kindsFound() {
        pairs(10, 0, 0, 2);
        pairs(4, 0, 0, 1);
        pairs(48, 1, 0, 4);
        pairs(36, 0, 3, 1);
        pairs(36, 0, 99, 1);
        pairs(42, 0, 2, 2);
        pairs(32, 0, 1, 3);
        pairs(16, 0, 1, 4);
        pairs(0, NONE, 0, 3);
        pairs(0, NONE, 0, 4294967298L);
        pairs(32, 0, 0, 4, 1, 3, 2, 2, 3, 1, 4, 1, 5, 1, 6, 1, 7, 1, 8, 1, 99, 1);
        pairs(0, NONE, 0, 4, 1, 3, 2, 2, 3, 1, 4, 1, 5, 1, 6, 1, 7, 1, 8, 1, 99, 2);
    }

    private static void kindsRefused() {
        pairs(NOT, NOT, 100, 1);
        pairs(NOT, NOT, -1, 1);
        pairs(NOT, NOT, 4294967296L, 4);
        pairs(NOT, NOT, 0, 9, 100, 1);
        FlexedFaces x = new FlexedFaces();
        due("nothing", x.kinds(0, 0, 9, 1, 0), NULL);
        Check.fill(x, 0, 0, 9, 0, 4);
        due("from 1 on", x.kinds(0, 0, 1, 1, 0), 48);
        due("another LANE", x.kinds(0, 1, 9, 1, 0), CAST);
        due("too short", x.kinds(0, 0, 0, 2, 0), INDEX);
        due("too short", x.kinds(0, 0, 2, 1, 0), INDEX);
        due("i -1", x.kinds(0, 0, -1, 1, 0), INDEX);
        due("i far", x.kinds(0, 0, Integer.MAX_VALUE, 1, 0), INDEX);
        due("n 0", x.kinds(0, 0, 0, 0, 0), BAD);
        due("n 11", x.kinds(0, 0, 0, 11, 0), BAD);
        due("what 2", x.kinds(0, 0, 1, 1, 2), BAD);
        due("what -1", x.kinds(0, 0, 1, 1, -1), BAD);
        due("SHEET -1", x.kinds(-1, 0, 1, 1, 0), BAD);
        due("LANE 4", x.kinds(0, 4, 1, 1, 0), BAD);
    }
}
