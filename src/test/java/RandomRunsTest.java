import java.util.Random;

/** Runs of calls drawn by fixed seeds: the class answers as the slow model does. */
public final class RandomRunsTest {
    private static final int RUNS = 1500, CALLS = 512, TEXTS = 30000;
    private final Check check = new Check("RandomRunsTest");
    private Random random;
    private FlexedFaces x;
    private Model m;
    private int left;
    private int run;

    public static void main(String[] args) {
        RandomRunsTest test = new RandomRunsTest();
        for (int run = 0; run < RUNS; run++) {
            test.oneRun(run);
        }
        test.texts();
        test.check.end();
    }

    /** Texts with one sign or figure changed, each read by a new object. */
    private void texts() {
        random = new Random(TEXTS);
        for (int k = 0; k < TEXTS; k++) {
            x = new FlexedFaces();
            m = new Model();
            String text = random.nextInt(3) == 0 ? badText() : withAnotherFigure(goodText());
            for (int at = 0; at < text.length(); at++) {
                x.feed(text.charAt(at));
                m.feed(text.charAt(at));
            }
            due("strip " + text, x.strip(), m.strip());
            due("count(0) " + text, x.count(0), m.count(0));
        }
    }

    private String withAnotherFigure(String good) {
        StringBuilder text = new StringBuilder(good);
        int place = text.indexOf(";") + 1 + random.nextInt(text.length() - text.indexOf(";") - 1);
        if (Character.isDigit(text.charAt(place))) {
            text.setCharAt(place, (char) ('0' + random.nextInt(10)));
        }
        return text.toString();
    }

    private void due(String call, long got, long want) {
        left--;
        check.due("run " + run + " " + call, got, want);
    }

    private void oneRun(int number) {
        run = number;
        random = new Random(number);
        x = new FlexedFaces();
        m = new Model();
        left = CALLS;
        if (random.nextInt(8) > 0) readText(goodText());
        while (left > 60) {
            oneCall();
        }
        compareAll();
    }

    /** Mostly a number of the range, sometimes one beside it or far away. */
    private int number(int least, int most) {
        int[] far = {Integer.MIN_VALUE, Integer.MAX_VALUE, -1000, 1000, Integer.MAX_VALUE - 1, 64, 32};
        int draw = random.nextInt(40);
        if (draw == 0) return least - 1;
        if (draw == 1) return most + 1;
        if (draw == 2) return far[random.nextInt(far.length)];
        return least + random.nextInt(most - least + 1);
    }

    private String goodText() {
        int n = 3 + random.nextInt(6);
        StringBuilder text = new StringBuilder("x");
        String letters = random.nextInt(3) == 0 ? "pt" : random.nextInt(3) == 0 ? "sb" : "pgtsb";
        int bears = random.nextInt(3) == 0 ? 2 : 9;
        for (int p = 0; p < n; p++) {
            text.append(p == 0 ? "" : ",").append(letters.charAt(random.nextInt(letters.length())));
            text.append(random.nextInt(10)).append(1 + random.nextInt(bears));
        }
        text.append(";");
        var foldings = Model.allFoldings(n);
        var folds = foldings.get(random.nextInt(foldings.size()));
        String between = "";
        for (int fold : folds) {
            boolean swap = random.nextBoolean();
            text.append(between).append(swap ? fold % 10 : fold / 10).append(swap ? fold / 10 : fold % 10);
            between = ",";
        }
        text.append(n == 3 ? "-;" : ";");
        int front = random.nextInt(n);
        int back = random.nextInt(n);
        while (!Model.areLinked(n, folds, front, back)) back = random.nextInt(n);
        return text.append(front).append(back).toString();
    }

    private String badText() {
        StringBuilder text = new StringBuilder(goodText());
        int place = random.nextInt(text.length());
        String signs = "x,;-0123456789pgtsb q\u00e9";
        char sign = signs.charAt(random.nextInt(signs.length()));
        switch (random.nextInt(4)) {
            case 0: text.setLength(place); break;
            case 1: text.insert(place, sign); break;
            case 2: text.deleteCharAt(place); break;
            default: text.setCharAt(place, sign);
        }
        return text.toString();
    }

    private void readText(String text) {
        for (int k = 0; k < text.length(); k++) {
            due("feed " + text, x.feed(text.charAt(k)), m.feed(text.charAt(k)));
        }
        due("strip " + text, x.strip(), m.strip());
    }

    private void oneCall() {
        int draw = random.nextInt(100);
        if (draw < 45) act();
        else if (draw < 65) ask();
        else if (draw < 96) sheetCall();
        else if (draw < 97) readText(random.nextBoolean() ? goodText() : badText());
        else if (draw < 98) due("feed", x.feed(draw = number(0, 255)), m.feed(draw));
        else told();
    }

    private void act() {
        int a = number(0, 7), b = number(0, 7), side = number(0, 1);
        switch (random.nextInt(12)) {
            case 0: due("turn()", x.turn(), m.turn()); break;
            case 1: due("refold " + a + " " + b, x.refold(a, b), m.refold(a, b)); break;
            case 2: due("mend " + a, x.mend(a), m.mend(a)); break;
            case 3: due("undo()", x.undo(), m.undo()); break;
            case 4: due("image " + side, x.image(side), m.image(side)); break;
            case 5: if (random.nextInt(3) == 0) due("restore " + side, x.restore(side), m.restore(side)); break;
            case 6: someRefold(); break;
            default: due("flex " + side, x.flex(side), m.flex(side));
        }
        left--;
    }

    private void someRefold() {
        if (m.now == null || m.now.folds.isEmpty()) return;
        Object[] folds = m.now.folds.toArray();
        int fold = (Integer) folds[random.nextInt(folds.length)];
        due("refold " + fold, x.refold(fold % 10, fold / 10), m.refold(fold % 10, fold / 10));
    }

    private void told() {
        int p = number(0, 7), kind = number(0, 5), what = number(0, 7), side = number(0, 1);
        due("as " + p + " " + kind, x.as(p, kind), m.as(p, kind));
        due("picture " + p + " " + what, x.picture(p, what), m.picture(p, what));
        due("brings " + side, x.brings(side), m.brings(side));
        int count = number(0, 8);
        due("count " + count, x.count(count), m.count(count));
    }

    private void ask() {
        int p = number(0, 7), what = number(0, 1), n = number(0, 6), q = number(0, 10), k = number(-2, 9);
        int seed = number(1, 999999), many = number(0, 60);
        switch (random.nextInt(7)) {
            case 0: due("reach()", x.reach(), m.reach()); break;
            case 1: due("way " + p + " " + k, x.way(p, k), m.way(p, k)); break;
            case 2: due("tour()", x.tour(), m.tour()); break;
            case 3: due("round " + what, x.round(what), m.round(what)); break;
            case 4: due("hand " + p + " " + n + " " + q + " " + what, x.hand(p, n, q, what), m.hand(p, n, q, what)); break;
            case 5: due("duel " + n, x.duel(n), m.duel(n)); break;
            default: due("decades " + many + " " + seed + " " + what, x.decades(many, seed, what), m.decades(many, seed, what));
        }
    }

    private void sheetCall() {
        int s = number(0, 3), lane = laneOf(s), i = number(0, 23), to = number(0, 3);
        int j = number(0, 12), n = number(0, 12), what = number(0, 2);
        long v = random.nextInt(3) == 0 ? random.nextLong() : number(0, 7);
        switch (random.nextInt(12)) {
            case 0: case 1:
                n = number(0, 24);
                lane = number(0, 3);
                due("sheet " + s + " " + lane + " " + n, x.sheet(s, lane, n), m.sheet(s, lane, n));
                break;
            case 2: if (random.nextInt(3) == 0) due("drop " + s, x.drop(s), m.drop(s)); break;
            case 3: case 4: case 5:
                due("item " + s + " " + lane + " " + i + " " + v, x.item(s, lane, i, v), m.item(s, lane, i, v));
                break;
            case 6: case 7:
                due("copy " + s + " " + j + " " + to + " " + i + " " + n, x.copy(s, j, to, i / 2, n), m.copy(s, j, to, i / 2, n));
                break;
            case 8:
                n = number(1, 24);
                due("log " + s + " " + lane + " " + j + " " + n, x.log(s, lane, j, n), m.log(s, lane, j, n));
                break;
            case 9: kinds(s, lane, number(0, 3)); break;
            default: foldings(s, lane, number(0, 3), what);
        }
        left--;
    }

    private int laneOf(int sheet) {
        if (sheet < 0 || sheet > 3 || random.nextInt(20) == 0) return number(0, 3);
        Object row = m.sheets[sheet];
        return row instanceof byte[] ? 0 : row instanceof short[] ? 1 : row instanceof int[] ? 2 : 3;
    }

    private void put(int s, int lane, int i, long v) {
        due("item " + s + " " + lane + " " + i + " " + v, x.item(s, lane, i, v), m.item(s, lane, i, v));
    }

    private void kinds(int s, int lane, int i) {
        int n = random.nextInt(3) > 0 ? 1 + random.nextInt(3) : number(1, 10), what = number(0, 1);
        if (n > 0 && n < 11 && random.nextInt(4) > 0) {
            char letter = "pgtsb".charAt(random.nextInt(5));
            for (int k = 0; k < n; k++) {
                int shown = random.nextInt(30) == 0 ? number(0, 99) : random.nextInt(6);
                put(s, lane, i + 2 * k, shown);
                put(s, lane, i + 2 * k + 1, Model.effortOf(letter, shown));
            }
        }
        due("kinds " + s + " " + lane + " " + i + " " + n + " " + what, x.kinds(s, lane, i, n, what), m.kinds(s, lane, i, n, what));
    }

    /** Mostly what one of the FOLDINGS would do, so that some are left. */
    private void foldings(int s, int lane, int i, int what) {
        int n = random.nextInt(3) > 0 ? random.nextInt(4) : number(0, 8);
        if (m.now != null && n >= 0 && n < 9 && random.nextInt(5) > 0) {
            int size = m.now.size();
            var all = Model.allFoldings(size);
            var folds = random.nextBoolean() ? m.now.folds : all.get(random.nextInt(all.size()));
            int a = random.nextInt(size), b = random.nextInt(size);
            while (!Model.areLinked(size, folds, a, b)) b = random.nextInt(size);
            put(s, lane, i, a);
            put(s, lane, i + 1, b);
            for (int k = 0; k < n; k++) {
                int move = random.nextInt(3);
                int c = move == 2 ? b : Model.bring(size, folds, a, b, move);
                if (c < 0) {
                    move = 1 - move;
                    c = Model.bring(size, folds, a, b, move);
                }
                put(s, lane, i + 2 + 2 * k, move);
                put(s, lane, i + 3 + 2 * k, random.nextInt(40) == 0 ? number(0, size - 1) : c);
                b = a;
                a = c;
            }
        }
        due("foldings " + s + " " + lane + " " + i + " " + n + " " + what,
            x.foldings(s, lane, i, n, what), m.foldings(s, lane, i, n, what));
    }

    private void compareAll() {
        for (int what = 0; what < 9; what++) {
            due("at last count " + what, x.count(what), m.count(what));
        }
        for (int p = 0; p < 8; p++) {
            for (int what = 3; what < 7; what++) {
                due("at last picture " + p + " " + what, x.picture(p, what), m.picture(p, what));
            }
        }
    }
}
