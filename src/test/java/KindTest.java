/** Promise 4: kind; and KINDS 0 .. 15, which stay. */
public final class KindTest {
    public static void main(String[] args) {
        Runs runs = new Runs();
        runs.run("words 0 .. 8", """
            kind -1 0 = !IllegalArgumentException; kind 9 0 = !IllegalArgumentException
            kind -2147483648 0 = !IllegalArgumentException; kind 2147483647 0 = !IllegalArgumentException
            kind 32 0 = !IllegalArgumentException; count 1 = 0
            kind 0 0 = 0; kind 8 0 = 1; count 1 = 2
            policy slide 20 = 20; make 0 0 = 0; about 0 1 = 1; make 1 1 = 1; about 1 1 = 9
            get 1 7 = 0; get 1 8 = !IndexOutOfBoundsException
            """);
        references(runs);
        bits(runs);
        sixteen(runs);
        stay(runs);
        Refused.everywhere(runs, "kind -1 0 = !IllegalArgumentException", "kind 9 0 = !IllegalArgumentException",
            "kind 1 2 = !IllegalArgumentException", "kind 1 -1 = !IllegalArgumentException");
        runs.finish();
    }

    private static void references(Runs runs) {
        for (int words = 0; words <= 8; words++) {
            int end = 1 << words;
            runs.run("references below 2^words",
                "kind " + words + " " + end + " = !IllegalArgumentException; kind " + words
                + " -1 = !IllegalArgumentException; kind " + words + " -2147483648 = !IllegalArgumentException; kind "
                + words + " 2147483647 = !IllegalArgumentException; count 1 = 0; kind " + words + " " + (end - 1)
                + " = 0; kind " + words + " 0 = 1; count 1 = 2");
        }
    }

    private static void bits(Runs runs) {
        StringBuilder all = new StringBuilder("policy slide 100 = 100\n");
        for (int bit = 0; bit < 8; bit++) {
            all.append("kind 8 ").append(1 << bit).append(" = ").append(bit).append("; make ").append(bit).append(" 0 = ")
                .append(bit).append('\n');
            for (int i = 0; i < 8; i++) {
                all.append("get ").append(bit).append(' ').append(i).append(i == bit ? " = -1; " : " = 0; ");
            }
        }
        runs.run("the bits tell which are REFERENCES", all.toString());
    }

    private static void sixteen(Runs runs) {
        StringBuilder all = new StringBuilder();
        for (int i = 0; i < 16; i++) {
            all.append("count 1 = ").append(i).append("; kind ").append(i % 9).append(" 0 = ").append(i).append('\n');
        }
        runs.run("16 are there", all.toString(), """
            count 1 = 16; kind 0 0 = !IllegalStateException; kind 8 255 = !IllegalStateException; count 1 = 16
            kind 9 0 = !IllegalArgumentException; kind -1 0 = !IllegalArgumentException
            kind 0 1 = !IllegalArgumentException; kind 8 256 = !IllegalArgumentException; count 1 = 16
            policy slide 40 = 40; kind 0 0 = !IllegalStateException
            make 15 0 = 0; about 0 2 = 15; about 0 1 = 7; make 0 1 = 1; about 1 2 = 0; make 8 2 = 2; about 2 1 = 9
            """);
    }

    private static void stay(Runs runs) {
        runs.run("they stay", """
            kind 2 1 = 0; policy slide 20 = 20; make 0 0 = 0; kind 3 0 = 1; make 1 1 = 1; about 1 1 = 4
            policy sweep 20 best = 20; count 1 = 2; make 0 0 = 0; get 0 0 = -1; get 0 1 = 0; make 1 1 = 1; about 1 1 = 4
            policy sweep 20 bes = -10; count 1 = 2; kind 0 0 = 2
            """);
    }
}
