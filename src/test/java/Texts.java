/** Pieces of TEXTS of a told length, depth or SIZE. */
final class Texts {
    private Texts() {
    }

    static String times(int n, String text, String between) {
        StringBuilder all = new StringBuilder();
        for (int i = 0; i < n; i++) {
            all.append(i == 0 ? "" : between).append(text);
        }
        return all.toString();
    }

    /** So many SUMS around a TERM: so many brackets within one another. */
    static String sums(int n, String inside) {
        return times(n, "sum(", "") + inside + times(n, ")", "");
    }

    /** A TERM of so many words, which is its SIZE, too: PAIRS of a leaf as flat as can be. */
    static String sized(int n, String leaf) {
        if (n == 1) {
            return leaf;
        }
        if (n == 2) {
            return "sum(" + leaf + ")";
        }
        int half = (n - 1) / 2;
        return "pair(" + sized(half, leaf) + "," + sized(n - 1 - half, leaf) + ")";
    }

    /** RAISE of a TERM by so many of one ATOM: so many words and two more. */
    static String raised(String under, int n, String by) {
        return "raise(" + under + times(n, "," + by, "") + ")";
    }

    /** RAISE of a TERM by eighteen ATOMS, the last in order first: as many RAISES as can be stand on the way to it. */
    static String heavy(String under) {
        return "raise(" + under + times(4, ",lot2", "") + times(4, ",lot1", "") + times(4, ",lot0", "") + times(3, ",key1", "")
                + times(3, ",key0", "") + ")";
    }
}
