/** Puts TEXTS on a TAPE. */
final class Tape {
    private Tape() {
    }

    static void put(HandShakes x, String text) {
        x.end(0);
        int most = (text.length() + 19) / 20 * 20;
        for (int from = 0; from < most; from += 20) {
            int[] four = new int[5];
            for (int i = 0; i < 20; i++) {
                int sign = from + i < text.length() ? text.charAt(from + i) & 255 : ' ';
                four[i / 4] = four[i / 4] << 8 | sign;
            }
            x.feed(four[0], four[1], four[2], four[3], four[4]);
        }
        x.end(text.length());
    }

    static int protocol(HandShakes x, String text) {
        put(x, text);
        return x.protocol();
    }

    static int shelf(HandShakes x, String text) {
        put(x, text);
        return x.shelf();
    }

    static int have(HandShakes x, String text) {
        put(x, text);
        return x.have();
    }

    static int make(HandShakes x, String text) {
        put(x, text);
        return x.make();
    }

    static int same(HandShakes x, String text) {
        put(x, text);
        return x.same();
    }
}
