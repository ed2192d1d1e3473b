/** Promise 11: root; ROOTS 0 .. 15. */
public final class RootTest {
    public static void main(String[] args) {
        Runs runs = new Runs();
        allSixteen(runs);
        runs.run("answers what it was", Runs.KINDS, """
            policy slide 40 = 40; make 0 0 = 0; make 0 1 = 1
            root 5 0 = -1; root 5 0 = 0; root 5 1 = 0; root 5 -1 = 1; root 5 -1 = -1
            """);
        runs.run("one OBJECT may have several ROOTS", Runs.KINDS, """
            policy slide 40 = 40; make 0 0 = 0; root 5 0 = -1; root 15 0 = -1; root 0 -1 = 0; about 0 1 = 3
            root 5 -1 = 0; about 0 1 = 3; root 15 -1 = 0; about 0 1 = !NoSuchElementException
            root 3 0 = !NoSuchElementException
            """);
        runs.run("i 0 .. 15", Runs.KINDS, """
            policy slide 40 = 40; make 0 0 = 0
            root -1 0 = !IllegalArgumentException; root 16 0 = !IllegalArgumentException
            root -2147483648 -1 = !IllegalArgumentException; root 2147483647 -1 = !IllegalArgumentException
            root 15 0 = -1; root 0 0 = 0
            """);
        runs.run("in this order", Runs.KINDS, """
            root 16 9 = !IllegalArgumentException; root 0 9 = !IllegalStateException
            policy slide 40 = 40; root 16 9 = !IllegalArgumentException; root 0 9 = !NoSuchElementException
            root 0 0 = !NoSuchElementException; root 0 -2 = !NoSuchElementException
            root 0 2147483647 = !NoSuchElementException; root 0 -2147483648 = !NoSuchElementException; root 0 -1 = -1
            """);
        Refused.withoutHeap(runs, "root 0 -1 = !IllegalStateException", "root 15 99 = !IllegalStateException",
            "root 16 -1 = !IllegalArgumentException", "root -1 -1 = !IllegalArgumentException");
        Refused.everywhere(runs, "root 16 0 = !IllegalArgumentException", "root -1 0 = !IllegalArgumentException",
            "root 16 99 = !IllegalArgumentException", "root 0 4 = !NoSuchElementException",
            "root 0 10 = !NoSuchElementException", "root 0 -2 = !NoSuchElementException");
        runs.finish();
    }

    private static void allSixteen(Runs runs) {
        StringBuilder all = new StringBuilder();
        for (int i = 0; i < 16; i++) {
            all.append("root ").append(i).append(" -1 = -1; ");
        }
        for (int i = 0; i < 16; i++) {
            all.append("make 2 ").append(i).append(" = ").append(i).append("; ");
        }
        for (int i = 0; i < 16; i++) {
            all.append("root ").append(i).append(" -1 = ").append(i).append("; ");
        }
        runs.run("all NOTHING at first, then one each", Runs.KINDS, "policy sweep 40 first = 40\n", all.toString(), """

            clean = 16; count 2 = 0
            """);
    }
}
