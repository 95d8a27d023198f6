import java.lang.management.ManagementFactory;

/** What long runs of dear calls make: all calls of one run live in one room of 7.3 million fields and elements. */
public final class BudgetTest {
    /** Half of the room, if all of it were int. */
    private static final long MOST_BYTES = 7_300_000L * 4 / 2;
    private static int wrong = 0;

    private BudgetTest() {
    }

    private static long made() {
        com.sun.management.ThreadMXBean bean = (com.sun.management.ThreadMXBean) ManagementFactory.getThreadMXBean();
        return bean.getCurrentThreadAllocatedBytes();
    }

    private static void most(String what, long from, long most) {
        long bytes = made() - from;
        System.out.println(what + ": " + bytes + " bytes");
        if (bytes > most) {
            wrong++;
            System.out.println(what + " made more than " + most + " bytes");
        }
    }

    public static void main(String[] args) {
        made();
        String[] texts = {
            "a take pair(x 0,x 1);a send pair(x 0,x 1);a take pair(x 2,x 3);a send seal(x 2,x 3);b take pair(x 0,x 1);"
                    + "b send sum(pair(x 0,lot 0));b take pair(x 2,x 3);b send x 2;a sure seal(lot 0,lot 1);b sure seal(lot 0,lot 2)",
            "a take pair(sum(x 0),sum(x 1));a send raise(x 0,lot 0,lot 1,lot 2,key 0,key 1,lot 0,lot 1);"
                    + "a send raise(x 1,lot 0,lot 1,lot 2);a take pair(sum(x 2),sum(x 3));b take sum(x 0);"
                    + "b send raise(x 0,lot 0,lot 1);a sure key 0;b sure key 0",
            "a send seal(seal(lot 0,lot 1),key 0);a take seal(seal(x 0,x 1),key 0);a send seal(seal(pair(x 0,x 1),lot 2),key 0);"
                    + "a take seal(seal(x 2,x 3),key 0);b send seal(seal(lot 0,lot 1),key 0);b take seal(seal(x 0,x 1),key 0);"
                    + "b send seal(seal(pair(x 0,x 1),lot 2),key 0);b take seal(seal(x 2,x 3),key 0);b sure key 0",
            "a send lot 0;a take x 0;a send hole 0;a send pair(hole 1,hole 2);a sure hole 2;b take x 0;b send hole 1;b sure hole 0"};
        String[] shelf = {"pair(pair(x 0,x 0),pair(x 0,lot 1))", "raise(x 0,lot 0,lot 1,lot 2,lot 0,key 0,lot 1)", "lot 2", "x 0",
            "seal(pair(lot 1,x 0),raise(x 0,key 0))"};
        HandShakes x = new HandShakes(); // the classes' own loading is not counted
        long from = made();
        x = new HandShakes();
        most("a new object", from, 20_000);
        for (String text : texts) {
            Tape.protocol(x, text);
        }
        for (String text : shelf) {
            Tape.shelf(x, text);
        }
        long start = System.nanoTime();
        from = made();
        for (int i = 0; i < 300; i++) {
            x.prove(i % 3, 1 + i % 2, i % 4);
        }
        most("300 proves", from, MOST_BYTES);
        from = made();
        for (int i = 0; i < 40; i++) {
            x.fill(3);
            x.weakest(i % 3);
            x.share(2, 50, 50, 0, 0);
        }
        most("120 fills, weakests, shares", from, MOST_BYTES);
        System.out.println((System.nanoTime() - start) / 1_000_000 + " ms");
        from = made();
        x = new HandShakes();
        for (int i = 0; i < 512; i++) {
            x.feed(0x61207365, 0x6e642067, 0x3b612073, 0x656e6420, 0x673b6120);
            x.protocol();
            x.have();
            x.make();
            x.same();
            x.image(i & 1);
            x.restore(i & 1);
        }
        most("512 refused texts", from, 400_000);
        from = made();
        for (int i = 0; i < 100; i++) {
            x = new HandShakes();
            x.feed(0x61207375, 0x72652067, 0x20202020, 0x20202020, 0x20202020);
            x.protocol();
            x.prove(0, 1, 0);
        }
        most("100 objects that prove once", from, MOST_BYTES);
        System.out.println(wrong == 0 ? "the room is large enough" : "the room is too small");
        if (wrong != 0) {
            System.exit(1);
        }
    }
}
