/** Promises 1 to 6, and 28: what is told of a STRIP, and how it is read. */
public final class ToldTest {
    private static final Check CHECK = new Check("ToldTest");
    private static final String SIX = "xp32,g51,t72,s19,b49,p63;02,24,04;02";
    private static final int BAD = -1, NOT = -2, FULL = -3, NONE = -4, CAST = -12;

    private static void due(String call, long got, long want) {
        CHECK.due(call, got, want);
    }

    public static void main(String[] args) {
        newObject();
        feeding();
        readingWell();
        faults();
        faultLeavesAllElse();
        stripInPlaceOfAnother();
        pictures();
        asKinds();
        bringing();
        counting();
        CHECK.end();
    }

    private static void newObject() {
        FlexedFaces x = new FlexedFaces();
        int[] want = {0, NONE, NONE, 0, 0, 0, 0, 0, 0};
        for (int what = 0; what < want.length; what++) {
            due("new: count(" + what + ")", x.count(what), want[what]);
        }
        due("new: brings", x.brings(0), NOT);
        due("new: flex", x.flex(1), NOT);
        due("new: turn", x.turn(), NOT);
        due("new: picture", x.picture(0, 0), BAD);
        due("new: as", x.as(0, 0), BAD);
        due("new: refold", x.refold(0, 2), BAD);
        due("new: mend", x.mend(0), BAD);
        due("new: undo", x.undo(), NONE);
        due("new: image", x.image(0), NOT);
        due("new: restore", x.restore(1), NOT);
        due("new: reach", x.reach(), NOT);
        due("new: way", x.way(0, 0), BAD);
        due("new: tour", x.tour(), NOT);
        due("new: round", x.round(1), NOT);
        due("new: hand", x.hand(0, 0, 0, 0), BAD);
        due("new: duel", x.duel(6), NOT);
        due("new: decades", x.decades(0, 1, 1), NOT);
        for (int sheet = 0; sheet < 4; sheet++) {
            due("new: drop", x.drop(sheet), -11);
        }
    }

    private static void feeding() {
        FlexedFaces x = new FlexedFaces();
        due("feed(-1)", x.feed(-1), BAD);
        due("feed(256)", x.feed(256), BAD);
        for (int k = 1; k <= 80; k++) {
            due("feed, the " + k + "-th", x.feed(k % 2 == 0 ? 0 : 255), k);
        }
        due("feed, the tape being full", x.feed(120), FULL);
        due("feed(256), the tape being full", x.feed(256), BAD);
        due("count(8)", x.count(8), 80);
        due("strip of what is none", x.strip(), -100);
        due("count(8) then", x.count(8), 0);
        due("feed again", x.feed(120), 1);
    }

    private static void readingWell() {
        FlexedFaces x = new FlexedFaces();
        due("three", Check.read(x, "xp01,g99,t01;-;20"), 3);
        due("three: FRONT", x.count(1), 2);
        due("three: BACK", x.count(2), 0);
        due("four", Check.read(x, "xp01,p01,p01,p01;31;13"), 4);
        due("six", Check.read(x, SIX), 6);
        due("eight", Check.read(x, "xp01,g01,t01,s01,b01,p01,p01,p09;20,27,62,63,35;07"), 8);
    }

    private static void fault(String text, int place) {
        due("strip of " + text, Check.read(new FlexedFaces(), text), -100 - place);
    }

    private static void faults() {
        fault("", 0);
        fault(" xp01,p01,p01;-;01", 0);
        fault("xx", 1);
        fault("xP01", 1);
        fault("xp", 2);
        fault("xpp", 2);
        fault("xp0", 3);
        fault("xp00,p01,p01;-;01", 3);
        fault("xp01;", 4);
        fault("xp01,p01;-;01", 8);
        fault("xp01,p01", 8);
        fault("xp01,;", 5);
        fault("xp01,p01,p01", 12);
        fault("xp01,p01,p01-", 12);
        fault("xp01,p01,p01;", 13);
        fault("xp01,p01,p01;01;01", 13);
        fault("xp01,p01,p01;;01", 13);
        fault("xp01,p01,p01;-", 14);
        fault("xp01,p01,p01;--;01", 14);
        fault("xp01,p01,p01;-;", 15);
        fault("xp01,p01,p01;-;3", 15);
        fault("xp01,p01,p01;-;0", 16);
        fault("xp01,p01,p01;-;03", 16);
        fault("xp01,p01,p01;-;00", 16);
        fault("xp01,p01,p01;-;0,1", 16);
        fault("xp01,p01,p01;-;012", 17);
        String eight = "xp01,p01,p01,p01,p01,p01,p01,p01";
        fault(eight + ",p01", 32);
        fault(eight + ";-", 33);
        fault(eight + ";8", 33);
        fault(eight + ";08", 34);
        fault(eight + ";02,20", 37);
        fault(eight + ";02,13", 37);
        fault(eight + ";13,02", 37);
        fault(eight + ";24,03", 37);
        fault(eight + ";24,30", 37);
        fault(eight + ";57,46", 37);
        fault(eight + ";57,64", 37);
        fault(eight + ";02,31", 37);
        fault(eight + ";07", 34);
        fault(eight + ";33", 34);
        fault(eight + ";02;", 35);
        fault(eight + ";02,03,04,05,06,", 47);
        fault(eight + ";02,03,04,05,06;7", 49);
        fault(eight + ";02,03,04,05,06;13", 49);
        fault(eight + ";02,03,04,05,06;03 ", 50);
        fault("xp01,p01,p01,p01;4", 17);
        fault("xp01,p01,p01,p01;02;4", 20);
    }

    private static void faultLeavesAllElse() {
        FlexedFaces x = Check.of(SIX);
        x.flex(0);
        due("a FAULT", Check.read(x, "xp01,p01,p01;-;00"), -116);
        due("then PICTURES", x.count(0), 6);
        due("then FRONT", x.count(1), 1);
        due("then EFFORT", x.count(3), 1);
        due("then ACTS", x.count(7), 1);
        due("then THE TAPE", x.count(8), 0);
        due("then undo", x.undo(), 0);
        due("then FRONT", x.count(1), 0);
    }

    private static void stripInPlaceOfAnother() {
        FlexedFaces x = Check.of(SIX);
        x.flex(0);
        x.image(1);
        Check.fill(x, 2, 1, 5, 6);
        due("another STRIP", Check.read(x, "xt01,t01,t01;-;12"), 3);
        int[] want = {3, 1, 2, 0, 0, 0, 0, 0, 0};
        for (int what = 0; what < want.length; what++) {
            due("another STRIP: count(" + what + ")", x.count(what), want[what]);
        }
        due("another STRIP: undo", x.undo(), NONE);
        due("another STRIP: SHOWN", x.picture(1, 4), 0);
        due("another STRIP: no fourth", x.picture(3, 0), BAD);
        due("another STRIP: the SHEET stays", x.drop(2), 2);
        due("another STRIP: the IMAGE stays", x.restore(1), 1);
        due("restored: PICTURES", x.count(0), 6);
    }

    private static void pictures() {
        FlexedFaces x = Check.of(SIX);
        int[][] want = {{1, 3, 2, 0, 0, 2, 54, 0}, {2, 5, 1, 0, 0, 1, 5, 0}, {3, 7, 2, 0, 0, 2, 27, 0},
            {4, 1, 9, 0, 0, 4, 20, 0}, {5, 4, 9, 0, 0, 4, 45, 0}, {1, 6, 3, 0, 0, 2, 17, 0}};
        for (int p = 0; p < 6; p++) {
            for (int what = 0; what < 8; what++) {
                due("picture(" + p + ", " + what + ")", x.picture(p, what), want[p][what]);
            }
        }
        due("picture(0, 8)", x.picture(0, 8), BAD);
        due("picture(0, -1)", x.picture(0, -1), BAD);
        due("picture(6, 0)", x.picture(6, 0), BAD);
        due("picture(-1, 0)", x.picture(-1, 0), BAD);
        due("picture, far", x.picture(Integer.MIN_VALUE, Integer.MAX_VALUE), BAD);
        x.flex(1);
        due("SHOWN once: picture(4, 4)", x.picture(4, 4), 1);
        due("SHOWN once: picture(4, 5)", x.picture(4, 5), 3);
        due("a BOARD: picture(4, 3)", x.picture(4, 3), 0);
    }

    private static void asKinds() {
        FlexedFaces x = Check.of("xp01,g01,t01,s01,b01;02,24;01");
        int[][] under = {{0, 1}, {0, 1, 2}, {0, 1, 3}, {0, 4}, {0, 4, 5}};
        for (int p = 0; p < 5; p++) {
            for (int kind = 0; kind < 6; kind++) {
                int want = CAST;
                for (int fit : under[p]) {
                    want = fit == kind ? p : want;
                }
                due("as(" + p + ", " + kind + ")", x.as(p, kind), want);
            }
        }
        due("as(5, 0)", x.as(5, 0), BAD);
        due("as(-1, 0)", x.as(-1, 0), BAD);
        due("as(0, 6)", x.as(0, 6), BAD);
        due("as(0, -1)", x.as(0, -1), BAD);
    }

    private static void bringing() {
        FlexedFaces x = Check.of(SIX);
        due("brings(0)", x.brings(0), 1);
        due("brings(1)", x.brings(1), 4);
        due("brings(2)", x.brings(2), BAD);
        due("brings(-1)", x.brings(-1), BAD);
        x.turn();
        due("turned: brings(0)", x.brings(0), 4);
        due("turned: brings(1)", x.brings(1), 1);
        x.turn();
        x.flex(0);
        due("FRONT 1, BACK 0: brings(0)", x.brings(0), 2);
        due("FRONT 1, BACK 0: brings(1)", x.brings(1), NONE);
        x.flex(0);
        x.flex(0);
        due("a TORN one: brings(0)", x.brings(0), 1);
    }

    private static void counting() {
        FlexedFaces x = Check.of(SIX);
        x.flex(0);
        x.flex(0);
        x.flex(0);
        x.flex(1);
        x.turn();
        x.feed(1);
        x.feed(2);
        int[] want = {6, 0, 4, 10, 23, 6, 4, 5, 2};
        for (int what = 0; what < want.length; what++) {
            due("count(" + what + ")", x.count(what), want[what]);
        }
        due("count(9)", x.count(9), BAD);
        due("count(-1)", x.count(-1), BAD);
    }
}
