/** Counts the answers that are not as due, each told with the document's sentence that asks for it. */
final class Check {
    private String sentence = "";
    private int wrong = 0;
    private int asked = 0;

    /** The sentence of the document that the next answers are due by. */
    void says(String words) {
        sentence = words;
    }

    void due(String call, long got, long want) {
        asked++;
        if (got != want) {
            wrong++;
            System.out.println("\"" + sentence + "\": " + call + " answered " + got + ", due is " + want);
        }
    }

    /** A new object with these PROTOCOLS. */
    HandShakes with(String... texts) {
        HandShakes x = new HandShakes();
        for (int i = 0; i < texts.length; i++) {
            due("protocol() " + texts[i], Tape.protocol(x, texts[i]), i);
        }
        return x;
    }

    void close() {
        System.out.println(wrong == 0 ? asked + " answers are as due" : wrong + " answers are not as due");
        if (wrong != 0) {
            System.exit(1);
        }
    }
}
