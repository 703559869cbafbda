/** Counts the answers that are not as due, and feeds texts. */
final class Check {
    private final String name;
    private String sentence = "";
    private int wrong = 0;
    private int asked = 0;

    Check(String name) {
        this.name = name;
    }

    /** The document's words by which the next answers are due. */
    void says(String words) {
        sentence = " \"" + words + "\"";
    }

    void due(String call, long got, long want) {
        asked++;
        if (got != want) {
            wrong++;
            System.out.println(name + sentence + ": " + call + " answered " + got + ", due is " + want);
        }
    }

    /** Ends the program with 1 if an answer was not as due. */
    void end() {
        System.out.println(name + ": " + (wrong == 0 ? "all " + asked + " answers are as due" : wrong + " answers are not as due"));
        if (wrong != 0) {
            System.exit(1);
        }
    }

    /** Feeds a text and reads it: what strip() answers. */
    static int read(FlexedFaces faces, String text) {
        for (int k = 0; k < text.length(); k++) {
            faces.feed(text.charAt(k));
        }
        return faces.strip();
    }

    static FlexedFaces of(String text) {
        FlexedFaces faces = new FlexedFaces();
        if (read(faces, text) < 0) {
            throw new IllegalStateException("the test's own text cannot be read: " + text);
        }
        return faces;
    }

    /** Puts values into a new row of a SHEET. */
    static void fill(FlexedFaces faces, int sheet, int lane, long... values) {
        faces.sheet(sheet, lane, values.length);
        for (int k = 0; k < values.length; k++) {
            faces.item(sheet, lane, k, values[k]);
        }
    }
}
