import java.lang.management.ManagementFactory;
import java.util.Random;

/** What runs of calls make: all calls of one run live in one room of 7.3 million fields and elements. */
public final class BudgetTest {
    /** Half of the room, if all of it were int. */
    private static final long MOST_BYTES = 7_300_000L * 4 / 2;
    /** What an object makes in its life, whatever it is asked: some 50,000 int. */
    private static final long LIFE_BYTES = 200_000;
    private static int wrong = 0;

    private BudgetTest() {
    }

    private static long made() {
        com.sun.management.ThreadMXBean bean = (com.sun.management.ThreadMXBean) ManagementFactory.getThreadMXBean();
        return bean.getCurrentThreadAllocatedBytes();
    }

    private static void most(String what, long bytes, long most) {
        System.out.println(what + ": " + bytes + " bytes");
        if (bytes > most) {
            wrong++;
            System.out.println(what + " made more than " + most + " bytes");
        }
    }

    private static void due(String what, long got, long want) {
        if (got != want) {
            wrong++;
            System.out.println(what + " answered " + got + ", due is " + want);
        }
    }

    public static void main(String[] args) {
        life(new Random(1)); // what the machine makes for itself, as it loads the classes, is not counted
        long from = made();
        HandShakes x = new HandShakes();
        most("a new object", made() - from, 20_000);
        manyCalls(x);
        from = made();
        x = new HandShakes();
        for (int i = 0; i < 512; i++) {
            x.feed(0x61207365, 0x6e642067, 0x3b612073, 0x656e6420, 0x673b6120);
            x.protocol();
            x.have();
            x.make();
            x.same();
            x.image(i & 1);
            x.restore(i & 1);
        }
        most("512 refused texts", made() - from, LIFE_BYTES);
        from = made();
        for (int i = 0; i < 100; i++) {
            x = new HandShakes();
            x.feed(0x61207375, 0x72652067, 0x20202020, 0x20202020, 0x20202020);
            x.protocol();
            x.prove(0, 1, 0);
        }
        most("100 objects that prove once", made() - from, MOST_BYTES);
        filledByMany();
        anyLife();
        System.out.println(wrong == 0 ? "the room is large enough" : "the room is too small");
        if (wrong != 0) {
            System.exit(1);
        }
    }

    private static void manyCalls(HandShakes x) {
        String[] texts = {
            "a take pair(x 0,x 1);a send pair(x 0,x 1);a take pair(x 2,x 3);a send seal(x 2,x 3);b take pair(x 0,x 1);"
                    + "b send sum(pair(x 0,lot 0));b take pair(x 2,x 3);b send x 2;a sure seal(lot 0,lot 1);b sure seal(lot 0,lot 2)",
            "a take pair(sum(x 0),sum(x 1));a send raise(x 0,lot 0,lot 1,lot 2,key 0,key 1,lot 0,lot 1);"
                    + "a send raise(x 1,lot 0,lot 1,lot 2);a take pair(sum(x 2),sum(x 3));b take sum(x 0);"
                    + "b send raise(x 0,lot 0,lot 1);a sure key 0;b sure key 0",
            "a send seal(seal(lot 0,lot 1),key 0);a take seal(seal(x 0,x 1),key 0);a send seal(seal(pair(x 0,x 1),lot 2),key 0);"
                    + "a take seal(seal(x 2,x 3),key 0);b send seal(seal(lot 0,lot 1),key 0);b take seal(seal(x 0,x 1),key 0);"
                    + "b send seal(seal(pair(x 0,x 1),lot 2),key 0);b take seal(seal(x 2,x 3),key 0);b sure key 0",
            "a send lot 0;a take x 0;a send hole 0;a send pair(hole 1,hole 2);a sure hole 2;b take x 0;b send hole 1;b sure hole 0"};
        String[] shelf = {"pair(pair(x 0,x 0),pair(x 0,lot 1))", "raise(x 0,lot 0,lot 1,lot 2,lot 0,key 0,lot 1)", "lot 2", "x 0",
            "seal(pair(lot 1,x 0),raise(x 0,key 0))"};
        for (String text : texts) {
            Tape.protocol(x, text);
        }
        for (String text : shelf) {
            Tape.shelf(x, text);
        }
        long start = System.nanoTime();
        long from = made();
        for (int i = 0; i < 300; i++) {
            x.prove(i % 3, 1 + i % 2, i % 4);
        }
        most("300 proves", made() - from, LIFE_BYTES);
        from = made();
        for (int i = 0; i < 40; i++) {
            x.fill(3);
            x.weakest(i % 3);
            x.share(2, 50, 50, 0, 0);
        }
        most("120 fills, weakests, shares", made() - from, LIFE_BYTES);
        System.out.println((System.nanoTime() - start) / 1_000_000 + " ms");
    }

    /** The numbers that a TEXT is fed by. */
    private static int[] fed(String text) {
        int[] numbers = new int[(text.length() + 19) / 20 * 5];
        for (int i = 0; i < 4 * numbers.length; i++) {
            numbers[i / 4] = numbers[i / 4] << 8 | (i < text.length() ? text.charAt(i) : ' ');
        }
        return numbers;
    }

    /** Puts a TEXT behind an empty TAPE: how many calls it took; 0, if one answered wrong. Makes nothing itself. */
    private static int feed(HandShakes x, int[] all, int length) {
        boolean good = true;
        for (int i = 0; i < all.length; i += 5) {
            good = x.feed(all[i], all[i + 1], all[i + 2], all[i + 3], all[i + 4]) == 4 * (i + 5) && good;
        }
        good = x.end(length) == length && good;
        return good ? all.length / 5 + 1 : 0;
    }

    /** Issue 11: each STATE of the search sends TERMS of its own, made of many ATOMS in the dearest order. */
    private static void filledByMany() {
        String[] texts = {"raise(pair(x0,x1),lot2,lot2,lot2,lot2,lot2,lot2,lot2,lot1,lot1,lot1,lot1,lot1,lot1)",
            "raise(seal(x0,x1),lot2,lot2,lot2,lot2,lot2,lot1,lot1,lot1,lot1,lot0,lot0,lot0,lot0,key1,key1,key1)",
            "seal(sum(sum(g)),seal(sum(sum(lot0)),seal(sum(sum(lot1)),seal(sum(sum(name0)),seal(sum(name1),key0)))))",
            "a send " + Texts.raised("g", 13, "lot0") + ";a send " + Texts.raised("g", 13, "lot1") + ";a send "
                + Texts.raised("g", 12, "lot2") + ";a send pair(pair(pair(g,g),pair(g,pair(g,g))),pair(pair(g,g),pair(g,pair(g,g))))",
            "b send pair(lot0,lot1);b send hole2;a take pair(x0,x1);a send hole0;a send raise(hole0,key1,lot0,lot0,key0,lot0,key1,key1,key1);"
                + "a send raise(hole1,key1,key0,key0,key0,key0,key0);a send raise(hole0,lot1,key0,lot0,lot0,lot0,key0,key1,key1,key1);"
                + "a send raise(hole0,lot0,lot0,lot0,lot0,lot0,key1,key1,key1,key1);"
                + "a send raise(hole0,key0,key0,key0,lot0,lot0,key1,key1,key0,key0);a sure hole1;a take key0"};
        int[][] numbers = new int[texts.length][];
        for (int i = 0; i < texts.length; i++) {
            numbers[i] = fed(texts[i]);
        }
        int[] want = {0, 1, 2, 0, 1, 0, 57, 0, 1, 2};
        int[] got = new int[want.length];
        int calls = want.length;
        long from = made();
        HandShakes x = new HandShakes();
        for (int i = 0; i < texts.length; i++) {
            calls += feed(x, numbers[i], texts[i].length());
            got[i] = i < 3 ? x.shelf() : x.protocol();
            if (i == 3) {
                got[5] = x.prove(0, 2, 0);
            }
        }
        got[6] = x.fill(1);
        for (int hole = 0; hole < 3; hole++) {
            got[7 + hole] = x.filled(hole);
        }
        most("TERMS of their own for each STATE", made() - from, LIFE_BYTES);
        due("how many calls", calls, 67);
        for (int i = 0; i < want.length; i++) {
            due("answer " + i + " of shelf(), protocol(), prove(), fill(), filled()", got[i], want[i]);
        }
    }

    private static String bys(Random random, int most) {
        String[] atoms = {",lot2", ",lot1", ",lot0", ",key1", ",key0"};
        StringBuilder all = new StringBuilder();
        int n = 1 + random.nextInt(most);
        for (int i = 0; i < n; i++) {
            all.append(atoms[random.nextBoolean() ? i * 5 / n : random.nextInt(5)]);
        }
        return all.toString();
    }

    /** LINES as large as can be, of what was taken and of holes. */
    private static String heavy(Random random, boolean holes) {
        StringBuilder text = new StringBuilder("a take pair(x0,x1);b take pair(x0,x1)");
        String more = "";
        for (int lines = 2; lines < 12 && text.length() + more.length() <= 400; lines++) {
            text.append(more);
            String leaf = holes && random.nextInt(2) == 0 ? "hole" + random.nextInt(3) : "x" + random.nextInt(2);
            String column = random.nextBoolean() ? ";a " : ";b ";
            switch (random.nextInt(8)) {
                case 0:
                    more = column + "take pair(x2,seal(x3,key0))";
                    break;
                case 1:
                    more = column + "send pair(pair(x0," + leaf + "),pair(x1,pair(" + leaf + ",x0)))";
                    break;
                case 2:
                    more = column + "send seal(raise(x0" + bys(random, 3) + "),raise(" + leaf + bys(random, 6) + "))";
                    break;
                default:
                    more = column + "send raise(" + leaf + bys(random, 18) + ")";
                    break;
            }
        }
        return text.toString();
    }

    /** One object with as much as it can hold, asked all that is dear: what it makes. */
    private static long life(Random random) {
        String[] texts = new String[51];
        int[][] numbers = new int[51][];
        for (int i = 0; i < 51; i++) {
            String under = i % 2 == 0 ? "pair(x0,x1)" : "seal(x0,lot" + i % 3 + ")";
            texts[i] = i < 6 ? heavy(random, i > 2) : "raise(" + (i < 11 ? under : "key1") + bys(random, i < 11 ? 16 : 18) + ")";
            numbers[i] = fed(texts[i]);
        }
        int refused = 0;
        long from = made();
        HandShakes x = new HandShakes();
        for (int i = 0; i < 51; i++) {
            boolean fed = feed(x, numbers[i], texts[i].length()) > 0;
            int answer = i < 6 ? x.protocol() : i < 11 ? x.shelf() : i < 31 ? x.have() : i < 41 ? x.make() : x.same();
            refused += fed && answer >= 0 ? 0 : 1;
        }
        for (int i = 0; i < 6; i++) {
            x.prove(i, 1 + i % 2, i % 4);
            x.prove(i, 2, 0);
            x.weakest(i);
            x.share(i, 50, 50, 0, 0);
            x.fill(i);
            x.image(i & 1);
        }
        long bytes = made() - from;
        due("how many TEXTS were refused", refused, 0);
        return bytes;
    }

    private static void anyLife() {
        Random random = new Random(11);
        long dearest = 0;
        for (int i = 0; i < 30; i++) {
            dearest = Math.max(dearest, life(random));
        }
        most("the dearest of 30 lives", dearest, LIFE_BYTES);
    }
}
