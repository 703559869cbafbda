/** The boundary cases of "Terms" part 1, and of promises 1 to 6 and 28: THE TAPE, reading, what is told. */
public final class TapeEdgesTest {
    private static final Check CHECK = new Check("TapeEdgesTest");
    private static final String THREE = "xp01,p01,p01;-;01";
    private static final String EIGHT = "xp01,g12,t23,s34,b45,p56,p67,p99;20,27,62,63,35;07";
    private static final int LEAST = Integer.MIN_VALUE, MOST = Integer.MAX_VALUE;
    private static final int BAD = -1, NOT = -2, FULL = -3, NONE = -4, NULL = -11, CAST = -12;

    private static void due(String call, long got, long want) {
        CHECK.due(call, got, want);
    }

    public static void main(String[] args) {
        noStripAtFirst();
        bytesOfTheTape();
        fullTape();
        fullTapeThatBeginsWell();
        bytesThatWereThereBefore();
        eachByteAtEachPlace();
        noBlanks();
        theEnd();
        nothingBehindIt();
        howManyPictures();
        worthAndBears();
        letters();
        noFolds();
        asManyFolds();
        noNeighbours();
        theSameTwo();
        crossing();
        crossingAnEarlierOne();
        frontAndBack();
        ringWithoutEnd();
        inPlaceOfTheOneBefore();
        faultLeavesAllElse();
        pictureEdges();
        pictureOfALesserRing();
        asEdges();
        bringsEdges();
        countEdges();
        countOfAllEight();
        countWithoutStrip();
        CHECK.end();
    }

    private static void taken(String text, int pictures) {
        due("strip of " + text, Check.read(new FlexedFaces(), text), pictures);
    }

    private static void fault(String text, int place) {
        FlexedFaces x = new FlexedFaces();
        due("strip of " + text, Check.read(x, text), -100 - place);
        due("PICTURES behind " + text, x.count(0), 0);
    }

    private static void noStripAtFirst() {
        CHECK.says("`FlexedFaces()`: No STRIP.");
        FlexedFaces x = new FlexedFaces();
        due("count(0)", x.count(0), 0);
        due("turn()", x.turn(), NOT);
        due("undo()", x.undo(), NONE);
        due("restore(0)", x.restore(0), NOT);
        due("restore(1)", x.restore(1), NOT);
        due("picture(0, 0)", x.picture(0, 0), BAD);
        due("count(8)", x.count(8), 0);
        for (int sheet = 0; sheet < 4; sheet++) {
            due("drop(" + sheet + ")", x.drop(sheet), NULL);
        }
    }

    private static void bytesOfTheTape() {
        CHECK.says("A byte (0 .. 255) comes behind THE TAPE: how many it has. BAD");
        FlexedFaces x = new FlexedFaces();
        due("feed(-1)", x.feed(-1), BAD);
        due("feed(256)", x.feed(256), BAD);
        due("feed(x and 256)", x.feed('x' + 256), BAD);
        due("feed(least)", x.feed(LEAST), BAD);
        due("feed(most)", x.feed(MOST), BAD);
        due("count(8), all refused", x.count(8), 0);
        due("feed(0)", x.feed(0), 1);
        due("feed(255)", x.feed(255), 2);
        due("feed(127)", x.feed(127), 3);
        due("feed(128)", x.feed(128), 4);
        due("count(8)", x.count(8), 4);
    }

    private static void fullTape() {
        CHECK.says("THE TAPE has at most 80 bytes, that come one by one.");
        FlexedFaces x = new FlexedFaces();
        for (int k = 1; k <= 80; k++) {
            due("feed, the " + k + "-th", x.feed('x'), k);
        }
        due("feed, the 81st", x.feed('x'), FULL);
        due("feed, the 81st again", x.feed(0), FULL);
        due("feed(-1), BAD comes ahead of FULL", x.feed(-1), BAD);
        due("feed(256), BAD comes ahead of FULL", x.feed(256), BAD);
        due("count(8)", x.count(8), 80);
        due("strip()", x.strip(), -101);
        due("count(8), empty then", x.count(8), 0);
        due("strip() of nothing", x.strip(), -100);
        for (int k = 1; k <= 80; k++) {
            due("feed anew, the " + k + "-th", x.feed('y'), k);
        }
        due("feed anew, the 81st", x.feed('y'), FULL);
    }

    /** What was FULL is not kept: the first 80 bytes alone are read. */
    private static void fullTapeThatBeginsWell() {
        CHECK.says("nothing behind it");
        StringBuilder text = new StringBuilder(EIGHT);
        while (text.length() < 90) {
            text.append('0');
        }
        due("EIGHT and 40 more", Check.read(new FlexedFaces(), text.toString()), -150);
        FlexedFaces x = new FlexedFaces();
        for (int k = 0; k < 81; k++) {
            x.feed(0);
        }
        x.strip();
        due("EIGHT behind a full TAPE", Check.read(x, EIGHT), 8);
    }

    private static void bytesThatWereThereBefore() {
        CHECK.says("THE TAPE, empty then, is a STRIP");
        FlexedFaces x = new FlexedFaces();
        due("THREE", Check.read(x, THREE), 3);
        due("strip() at once", x.strip(), -100);
        for (int length = 1; length < THREE.length(); length++) {
            due("THREE, " + length + " bytes", Check.read(x, THREE.substring(0, length)), -100 - length);
        }
        due("the rest alone", Check.read(x, THREE.substring(1)), -100);
        due("THREE, all", Check.read(x, THREE), 3);
    }

    /** All 256 bytes at each place of THREE: which of them can stand there. */
    private static void eachByteAtEachPlace() {
        CHECK.says("A FAULT is the place of the first byte that cannot stand there");
        String figures = "0123456789";
        String bears = "123456789";
        String kinds = "pgtsb";
        String[] fit = {"x", kinds, figures, bears, ",", kinds, figures, bears, ",", kinds, figures, bears, ";", "-", ";",
            "02", "12"};
        for (int place = 0; place < fit.length; place++) {
            for (int letter = 0; letter < 256; letter++) {
                String text = THREE.substring(0, place) + (char) letter + THREE.substring(place + 1);
                // a fourth PICTURE could come at 12, and FRONT could be 1, but what follows cannot stand there then
                boolean laterOne = place == 12 && letter == ',' || place == 15 && letter == '1';
                int faulty = laterOne ? place + 1 : place;
                int want = fit[place].indexOf(letter) >= 0 ? 3 : -100 - faulty;
                due("byte " + letter + " at " + place, Check.read(new FlexedFaces(), text), want);
            }
        }
    }

    private static void noBlanks() {
        CHECK.says("No blanks.");
        for (int place = 0; place <= EIGHT.length(); place++) {
            fault(EIGHT.substring(0, place) + " " + EIGHT.substring(place), place);
        }
    }

    private static void theEnd() {
        CHECK.says("the end: how many bytes there are");
        for (int length = 0; length < EIGHT.length(); length++) {
            fault(EIGHT.substring(0, length), length);
        }
        for (int length = 0; length < THREE.length(); length++) {
            fault(THREE.substring(0, length), length);
        }
        taken(EIGHT, 8);
        taken(THREE, 3);
    }

    private static void nothingBehindIt() {
        CHECK.says("FRONT BACK, nothing behind it");
        for (String more : new String[] {"0", "1", ";", ",", " ", "x", "\0", "\n", "\u00ff", THREE}) {
            fault(THREE + more, 17);
            fault(EIGHT + more, 50);
        }
    }

    private static void howManyPictures() {
        CHECK.says("3 to 8 PICTURES");
        for (int n = 3; n <= 8; n++) {
            taken(Texts.fanned(n, "p01", "01"), n);
        }
        CHECK.says("too few PICTURES: the ; that comes too early");
        fault("x;-;01", 1);
        fault("xp01;-;01", 4);
        fault("xp01,p01;-;01", 8);
        fault("xp01,p01;;01", 8);
        fault("xp01,p01,;-;01", 9);
        CHECK.says("a PICTURE too many: the , ahead");
        fault(Texts.ring(9, "p01") + ";" + Texts.fan(6) + ";01", 32);
        fault(Texts.ring(8, "p01") + ",", 32);
        fault(Texts.ring(8, "p01") + ",;", 32);
        fault(Texts.ring(8, "p01") + ",q", 32);
    }

    private static void worthAndBears() {
        CHECK.says("each a letter, WORTH (a figure), BEARS (a figure 1 to 9)");
        FlexedFaces x = Check.of("xp01,p99,p19;-;01");
        due("WORTH 0", x.picture(0, 1), 0);
        due("BEARS 1", x.picture(0, 2), 1);
        due("WORTH 9", x.picture(1, 1), 9);
        due("BEARS 9", x.picture(1, 2), 9);
        fault("xp00,p01,p01;-;01", 3);
        fault("xp90,p01,p01;-;01", 3);
        fault("xp01,p01,p00;-;01", 11);
        fault("xp/1,p01,p01;-;01", 2);
        fault("xp:1,p01,p01;-;01", 2);
        fault("xp0/,p01,p01;-;01", 3);
        fault("xp0:,p01,p01;-;01", 3);
        fault("xp-1,p01,p01;-;01", 2);
        fault("xp010,p01,p01;-;01", 4);
    }

    private static void letters() {
        CHECK.says("Letters: p PLAIN, g GLOSSY, t THIN, s STIFF, b BOARD.");
        String known = "pgtsb";
        for (int k = 0; k < 5; k++) {
            FlexedFaces x = Check.of("xp01,p01," + known.charAt(k) + "01;-;01");
            due("KIND of " + known.charAt(k), x.picture(2, 0), k + 1);
        }
        for (char letter : "oqfhruacPGTSBx0,".toCharArray()) {
            fault("x" + letter + "01,p01,p01;-;01", 1);
            fault("xp01,p01," + letter + "01;-;01", 9);
        }
    }

    private static void noFolds() {
        CHECK.says("or - (if there are 3 PICTURES, not else)");
        taken(THREE, 3);
        fault("xp01,p01,p01;02;01", 13);
        fault("xp01,p01,p01;;01", 13);
        fault("xp01,p01,p01;--;01", 14);
        for (int n = 4; n <= 8; n++) {
            fault(Texts.ring(n, "p01") + ";-;01", 4 * n + 1);
        }
        fault(Texts.ring(5, "p01") + ";02,-;01", 24);
    }

    /** The sign behind m FOLDS stands at 4 n + 3 m. */
    private static void asManyFolds() {
        CHECK.says("There are as many FOLDS as PICTURES less 3");
        for (int n = 4; n <= 8; n++) {
            taken(Texts.ring(n, "p01") + ";" + Texts.fan(n - 3) + ";01", n);
        }
        CHECK.says("too few FOLDS, too many: what stands in place of the sign that is due");
        fault(Texts.ring(4, "p01") + ";;01", 17);
        for (int n = 5; n <= 8; n++) {
            fault(Texts.ring(n, "p01") + ";" + Texts.fan(n - 4) + ";01", 4 * n + 3 * (n - 4));
            fault(Texts.ring(n, "p01") + ";;01", 4 * n + 1);
        }
        for (int n = 4; n <= 8; n++) {
            fault(Texts.ring(n, "p01") + ";" + Texts.fan(n - 3) + ",02;01", 4 * n + 3 * (n - 3));
            fault(Texts.ring(n, "p01") + ";" + Texts.fan(n - 3) + ",;01", 4 * n + 3 * (n - 3));
        }
        fault("xp01,p01,p01;-,02;01", 14);
    }

    private static void noNeighbours() {
        CHECK.says("a FOLD joins two PICTURES that are no neighbours .. a FOLD that cannot be: its second figure");
        for (int n = 4; n <= 8; n++) {
            for (int one = 0; one < n; one++) {
                for (int other = 0; other < 10; other++) {
                    boolean can = other < n && one != other && !Texts.areNeighbours(n, one, other);
                    fault(Texts.ring(n, "p01") + ";" + one + other, 4 * n + (can ? 3 : 2));
                }
            }
        }
        // a first figure that is no PICTURE is the first byte that cannot stand there
        for (int n = 4; n <= 8; n++) {
            for (int one = n; one < 10; one++) {
                fault(Texts.ring(n, "p01") + ";" + one + "0", 4 * n + 1);
            }
        }
    }

    private static void theSameTwo() {
        CHECK.says("no two FOLDS join the same two");
        fault(Texts.ring(5, "p01") + ";02,02;01", 25);
        fault(Texts.ring(5, "p01") + ";02,20;01", 25);
        fault(Texts.ring(8, "p01") + ";35,37,31,53,30;01", 43);
        fault(Texts.ring(8, "p01") + ";35,37,31,30,53;01", 46);
    }

    private static void crossing() {
        CHECK.says("no two cross");
        for (int n = 5; n <= 8; n++) {
            for (int pairs = 0; pairs < n * n * n * n; pairs++) {
                int a = pairs % n;
                int b = pairs / n % n;
                int c = pairs / n / n % n;
                int d = pairs / n / n / n;
                boolean folds = a != b && c != d && !Texts.areNeighbours(n, a, b) && !Texts.areNeighbours(n, c, d);
                boolean alike = a == c && b == d || a == d && b == c;
                if (folds) {
                    boolean can = !alike && !Texts.cross(n, a, b, c, d);
                    String text = Texts.ring(n, "p01") + ";" + a + b + "," + c + d;
                    due("strip of " + text, Check.read(new FlexedFaces(), text), -100 - (4 * n + (can ? 6 : 5)));
                }
            }
        }
    }

    private static void crossingAnEarlierOne() {
        CHECK.says("no two cross");
        fault(Texts.ring(8, "p01") + ";13,57,35,02,15;01", 43);
        fault(Texts.ring(8, "p01") + ";13,57,35,15,06;01", 46);
        fault(Texts.ring(8, "p01") + ";13,57,35,15,60;01", 46);
        taken(Texts.ring(8, "p01") + ";13,57,35,15,17;01", 8);
        taken(Texts.ring(8, "p01") + ";13,57,35,15,50;01", 8);
    }

    private static void frontAndBack() {
        CHECK.says("FRONT and BACK are LINKED.");
        int[] linked = {0b11111110, 0b101, 0b1011, 0b10101, 0b101001, 0b1010001, 0b10100001, 0b1000001};
        for (int front = 0; front < 10; front++) {
            for (int back = 0; back < 10; back++) {
                boolean fit = front < 8 && back < 8 && (linked[front] >> back & 1) == 1;
                String text = Texts.fanned(8, "p01", "" + front + back);
                int want = fit ? 8 : front > 7 ? -148 : -149;
                due("strip of " + text, Check.read(new FlexedFaces(), text), want);
            }
        }
        CHECK.says("a BACK that is not LINKED: that");
        fault("xp01,p01,p01;-;00", 16);
        fault("xp01,p01,p01;-;03", 16);
        fault("xp01,p01,p01;-;30", 15);
        fault("xp01,p01,p01,p01;02;13", 21);
        fault("xp01,p01,p01,p01;13;02", 21);
        taken("xp01,p01,p01,p01;13;31", 4);
    }

    private static void ringWithoutEnd() {
        CHECK.says("behind the last one comes the first");
        for (int n = 3; n <= 8; n++) {
            FlexedFaces x = Check.of(Texts.fanned(n, "p09", (n - 1) + "0"));
            due("LINKED to the last of " + n, x.picture(n - 1, 6), 1 | 1 << n - 2);
            due("the first is LINKED to the last of " + n, x.picture(0, 6) >> n - 1 & 1, 1);
            due("brings(0), none between the last and the first", x.brings(0), NONE);
            due("brings(1)", x.brings(1), n - 2);
        }
        FlexedFaces x = Check.of("xp09,p09,p09,p09;13;31");
        due("from 3 to 1, RIGHT, over the end", x.brings(0), 0);
        due("from 3 to 1, LEFT", x.brings(1), 2);
        FlexedFaces y = Check.of("xp09,p09,p09,p09;13;13");
        due("from 1 to 3, RIGHT", y.brings(0), 2);
        due("from 1 to 3, LEFT, over the end", y.brings(1), 0);
    }

    private static FlexedFaces used() {
        FlexedFaces x = Check.of("xt09,b09,p02;-;01");
        for (int k = 0; k < 5; k++) {
            x.flex(1);
        }
        return x;
    }

    private static void inPlaceOfTheOneBefore() {
        CHECK.says("A STRIP that is read stands in place of the one before (none at first)");
        FlexedFaces x = used();
        due("EFFORT ahead", x.count(3), 13);
        due("WEAR ahead", x.count(6), 4);
        due("SHOWN ahead", x.count(4), 7);
        due("TORN ahead", x.count(5), 4);
        due("ACTS ahead", x.count(7), 5);
        x.image(1);
        Check.fill(x, 2, 1, 0, 4);
        due("the same text again", Check.read(x, "xt09,b09,p02;-;01"), 3);
        CHECK.says("nothing was SHOWN, no WEAR, EFFORT 0, no MOVES; nothing can be undone");
        int[] counts = {3, 0, 1, 0, 0, 0, 0, 0, 0};
        for (int what = 0; what < counts.length; what++) {
            due("count(" + what + ")", x.count(what), counts[what]);
        }
        for (int p = 0; p < 3; p++) {
            due("WEAR of " + p, x.picture(p, 3), 0);
            due("SHOWN of " + p, x.picture(p, 4), 0);
            due("TORN, " + p, x.picture(p, 7), 0);
        }
        due("EFFORT of the BOARD, as never SHOWN", x.picture(1, 5), 4);
        due("undo()", x.undo(), NONE);
        CHECK.says("all else stays");
        due("the SHEET's items", x.kinds(2, 1, 0, 1, 0), 48);
        due("restore(0)", x.restore(0), NOT);
        due("restore(1)", x.restore(1), 1);
        due("EFFORT of the IMAGE", x.count(3), 13);
    }

    private static void faultLeavesAllElse() {
        CHECK.says("-100 less the place of a FAULT (all else stays)");
        FlexedFaces x = used();
        due("a FAULT at the last byte", Check.read(x, "xp01,p01,p01;-;00"), -116);
        due("count(8), empty then", x.count(8), 0);
        due("a FAULT behind the last byte", Check.read(x, "xp01,p01,p01;-;012"), -117);
        due("a FAULT of nothing", x.strip(), -100);
        int[] counts = {3, 1, 2, 13, 7, 4, 4, 5, 0};
        for (int what = 0; what < counts.length; what++) {
            due("count(" + what + ")", x.count(what), counts[what]);
        }
        due("KIND", x.picture(0, 0), 3);
        due("undo()", x.undo(), 4);
        due("FRONT", x.count(1), 2);
    }

    private static void pictureEdges() {
        CHECK.says("Of a PICTURE: 0 the KIND, as told (1 .. 5), .. 7 whether TORN (1, 0). BAD.");
        for (int n = 3; n <= 8; n++) {
            FlexedFaces x = Check.of(Texts.fanned(n, "s91", "01"));
            for (int what = 0; what < 8; what++) {
                int linked = n == 3 ? 3 : 1 | 1 << n - 2;
                int[] last = {4, 9, 1, 0, 0, 4, linked, 0};
                due("picture(" + (n - 1) + ", " + what + ") of " + n, x.picture(n - 1, what), last[what]);
                due("picture(" + n + ", " + what + ") of " + n, x.picture(n, what), BAD);
                due("picture(-1, " + what + ") of " + n, x.picture(-1, what), BAD);
            }
            due("picture(0, 8)", x.picture(0, 8), BAD);
            due("picture(0, -1)", x.picture(0, -1), BAD);
            due("picture(0, most)", x.picture(0, MOST), BAD);
            due("picture(least, 0)", x.picture(LEAST, 0), BAD);
            due("picture(most, 0)", x.picture(MOST, 0), BAD);
        }
        FlexedFaces none = new FlexedFaces();
        due("picture(0, 0), no STRIP", none.picture(0, 0), BAD);
        due("picture(0, 7), no STRIP", none.picture(0, 7), BAD);
    }

    private static void pictureOfALesserRing() {
        CHECK.says("there is no such thing");
        FlexedFaces x = Check.of(EIGHT);
        due("picture(7, 1)", x.picture(7, 1), 9);
        Check.read(x, THREE);
        for (int p = 3; p < 8; p++) {
            due("picture(" + p + ", 1) of three", x.picture(p, 1), BAD);
            due("as(" + p + ", 0) of three", x.as(p, 0), BAD);
            due("mend(" + p + ") of three", x.mend(p), BAD);
            due("way(" + p + ", -1) of three", x.way(p, -1), BAD);
            due("hand(" + p + ", 0, 0, 0) of three", x.hand(p, 0, 0, 0), BAD);
        }
    }

    private static void asEdges() {
        CHECK.says("A PICTURE taken as a KIND (0 .. 5): its number. BAD; CAST: it is none such.");
        FlexedFaces x = Check.of("xp01,g01,t01,s01,b01;02,24;01");
        String[] fits = {"01", "012", "013", "04", "045"};
        for (int p = 0; p < 5; p++) {
            for (int kind = 0; kind < 6; kind++) {
                due("as(" + p + ", " + kind + ")", x.as(p, kind), fits[p].indexOf('0' + kind) >= 0 ? p : CAST);
            }
            due("as(" + p + ", -1)", x.as(p, -1), BAD);
            due("as(" + p + ", 6)", x.as(p, 6), BAD);
        }
        due("as(5, 0)", x.as(5, 0), BAD);
        due("as(-1, 0)", x.as(-1, 0), BAD);
        due("as(5, 5)", x.as(5, 5), BAD);
        due("as(0, most)", x.as(0, MOST), BAD);
        due("as(0, least)", x.as(0, LEAST), BAD);
        due("as(0, 0), no STRIP", new FlexedFaces().as(0, 0), BAD);
    }

    private static void bringsEdges() {
        CHECK.says("What a FLEX to a side (0 RIGHT, 1 LEFT) would bring, TORN or not; NONE. BAD; NOT: no STRIP.");
        FlexedFaces none = new FlexedFaces();
        due("brings(0), no STRIP", none.brings(0), NOT);
        due("brings(1), no STRIP", none.brings(1), NOT);
        due("brings(-1), BAD comes ahead of NOT", none.brings(-1), BAD);
        due("brings(2), BAD comes ahead of NOT", none.brings(2), BAD);
        FlexedFaces x = Check.of(THREE);
        due("brings(0), none on that side", x.brings(0), NONE);
        due("brings(1)", x.brings(1), 2);
        due("brings(-1)", x.brings(-1), BAD);
        due("brings(2)", x.brings(2), BAD);
        due("brings(least)", x.brings(LEAST), BAD);
        due("brings(most)", x.brings(MOST), BAD);
        for (int k = 0; k < 3; k++) {
            x.flex(1);
        }
        due("all TORN", x.count(5), 7);
        due("brings(1), a TORN one", x.brings(1), 2);
        due("brings(0), none on that side", x.brings(0), NONE);
    }

    private static void countEdges() {
        CHECK.says("0 PICTURES, 1 FRONT, 2 BACK .. 8 bytes of THE TAPE .. BAD.");
        FlexedFaces x = used();
        x.feed('x');
        int[] counts = {3, 1, 2, 13, 7, 4, 4, 5, 1};
        for (int what = 0; what < counts.length; what++) {
            due("count(" + what + ")", x.count(what), counts[what]);
        }
        due("count(-1)", x.count(-1), BAD);
        due("count(9)", x.count(9), BAD);
        due("count(least)", x.count(LEAST), BAD);
        due("count(most)", x.count(MOST), BAD);
    }

    /** 2, 1, 0 come, then 2 to 7, each of them joined with 0. */
    private static void countOfAllEight() {
        CHECK.says("4 PICTURES that were SHOWN, as a set, 5 TORN ones, as a set, 6 WEAR of all together");
        FlexedFaces x = Check.of("xp01,p01,p02,p01,p01,p01,p01,p01;02,03,04,05,06;01");
        due("SHOWN, none", x.count(4), 0);
        due("TORN, none", x.count(5), 0);
        x.flex(1);
        x.flex(1);
        x.flex(1);
        due("SHOWN, three", x.count(4), 7);
        due("TORN, two of them", x.count(5), 3);
        for (int k = 2; k < 8; k++) {
            due("flex(1)", x.flex(1), k);
            due("turn()", x.turn(), 0);
        }
        int[] counts = {8, 0, 7, 24, 255, 255, 9, 15, 0};
        for (int what = 0; what < counts.length; what++) {
            due("count(" + what + ")", x.count(what), counts[what]);
        }
    }

    private static void countWithoutStrip() {
        CHECK.says("(both NONE: no STRIP) .. (but 1, 2, 8: 0 without a STRIP)");
        FlexedFaces x = new FlexedFaces();
        x.feed(7);
        x.feed(7);
        int[] counts = {0, NONE, NONE, 0, 0, 0, 0, 0, 2};
        for (int what = 0; what < counts.length; what++) {
            due("count(" + what + ")", x.count(what), counts[what]);
        }
        due("count(-1)", x.count(-1), BAD);
        due("count(9)", x.count(9), BAD);
    }
}
