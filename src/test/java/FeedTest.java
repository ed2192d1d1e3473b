/** Promise 2: feed; and that THE TAPE has at most 100 bytes. */
public final class FeedTest {
    private static final String BLANKS = "feed 538976288 538976288 538976288 538976288 538976288 = ";

    public static void main(String[] args) {
        Runs runs = new Runs();
        // "regi", "ons ", "0064", " 001", "6 05"
        runs.run("20 bytes of five ints, the highest of each first", """
            feed 1919248233 1869509408 808465972 540028977 908079157 = 20; heap = 64
            """);
        runs.run("bytes of 128 and more", """
            feed -1 -2 -3 -4 -5 = 20; heap = -1
            feed 1936484708 1696608566 545267744 538976288 538976288 = 20; heap = -10    # 128 behind "slide 16 "
            """);
        runs.run("they come behind what is there", """
            feed 1936484708 1696608566 538976288 538976288 538976288 = 20; end 6 = 6     # "slide "
            feed 825696288 538976288 538976288 538976288 538976288 = 26; heap = 17       # "17  "
            """);
        full(runs);
        lastByte(runs);
        runs.run("a call that reads THE TAPE leaves it empty", """
            feed 1936484708 1696608566 538976288 538976288 538976288 = 20; heap = 16; count 0 = 0; heap = -1
            feed 1936484708 1696608560 538976288 538976288 538976288 = 20; heap = -7; count 0 = 0
            feed 1936484708 1696608566 538976288 538976288 538976288 = 20; count 0 = 20; heap = 16
            """);
        runs.run("a refused feed changes nothing", Runs.KINDS, "policy sweep 20 first = 20; make 1 0 = 0; put 0 1 5 = 0;"
            + BLANKS + "20; end 1 = 1;" + BLANKS + "21;" + BLANKS + "41;" + BLANKS + "61;" + BLANKS + "81", """

            feed 1 2 3 4 5 = !IndexOutOfBoundsException; count 0 = 81; count 1 = 4; count 2 = 1; count 4 = 1; get 0 1 = 5
            heap = -82
            """);
        runs.run("no other call reads it", Runs.KINDS, """
            policy slide 20 = 20; feed 0 0 0 0 0 = 20; make 0 0 = 0; clean = 0; kind 0 0 = 4; count 0 = 20
            """);
        runs.finish();
    }

    private static void full(Runs runs) {
        runs.run("just 100", BLANKS + "20;" + BLANKS + "40;" + BLANKS + "60;" + BLANKS + "80;" + BLANKS + "100", """

            count 0 = 100
            feed 1 2 3 4 5 = !IndexOutOfBoundsException; count 0 = 100
            heap = -101                      # the length: blanks alone
            """);
        for (int length : new int[] {81, 82, 99, 100}) {
            runs.run("it would have more than 100", "feed 1936484708 1696608566 538976288 538976288 538976288 = 20;"
                + BLANKS + "40;" + BLANKS + "60;" + BLANKS + "80;" + BLANKS + "100; end " + length + " = " + length
                + "; feed 0 0 0 0 0 = !IndexOutOfBoundsException; count 0 = " + length
                + "; heap = 16; count 0 = 0; feed 0 0 0 0 0 = 20");
        }
        for (int length : new int[] {0, 1, 79, 80}) {
            runs.run("it has 100 at most", BLANKS + "20;" + BLANKS + "40;" + BLANKS + "60;" + BLANKS + "80; end " + length
                + " = " + length + "; feed 0 0 0 0 0 = " + (length + 20) + "; count 0 = " + (length + 20)
                + "; heap = " + (-1 - length));
        }
    }

    private static void lastByte(Runs runs) {
        check(runs, " ".repeat(92) + "slide 16", 16);
        check(runs, " ".repeat(91) + "slide 16 ", 16);
        check(runs, " ".repeat(93) + "slide 1", -100);
        check(runs, "slide 16" + " ".repeat(91) + "x", -100);
        check(runs, "slide 16" + " ".repeat(92), 16);
        check(runs, "slide" + " ".repeat(93) + "16", 16);
        check(runs, "slide" + " ".repeat(95), -101);
        check(runs, "x".repeat(100), -1);
    }

    private static void check(Runs runs, String text, int want) {
        CollectorHouse house = new CollectorHouse();
        Runs.feed(house, text);
        runs.expect("heap of '" + text + "'", Runs.answer(house, "heap"), String.valueOf(want));
    }
}
