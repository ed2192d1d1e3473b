/** The policy counts. */
public final class CountsTest {
    public static void main(String[] args) {
        Runs runs = new Runs();
        counting(runs);
        falling(runs);
        wishes(runs);
        cleaning(runs);
        longChain(runs);
        whatCounts(runs);
        fallsBy(runs);
        setToWhatItHas(runs);
        withAWish(runs);
        wordAfterWord(runs);
        cleanedAsBySweep(runs);
        runs.finish();
    }

    private static void whatCounts(Runs runs) {
        StringBuilder roots = new StringBuilder();
        for (int i = 1; i < 16; i++) {
            roots.append("root ").append(i).append(" 0 = -1; about 0 4 = ").append(i + 1).append("; ");
        }
        for (int i = 0; i < 15; i++) {
            roots.append("root ").append(i).append(" -1 = 0; about 0 4 = ").append(15 - i).append("; ");
        }
        runs.run("how many ROOTS", Runs.KINDS, "policy counts 40 first = 40; make 2 0 = 0; about 0 4 = 1\n", roots.toString(), """

            root 15 -1 = 0; count 2 = 0
            """);
        StringBuilder words = new StringBuilder();
        for (int i = 0; i < 60; i++) {
            words.append("link 1 ").append(i).append(" 0 = -1; ");
        }
        words.append("about 0 4 = 61; root 0 -1 = 0; about 0 4 = 60; ");
        for (int i = 0; i < 59; i++) {
            words.append("link 1 ").append(i).append(" -1 = 0; ");
        }
        runs.run("how many REFERENCES", Runs.KINDS, "policy counts 80 first = 80; make 2 0 = 0; row true 60 1 = 1\n",
            words.toString(), "about 0 4 = 1; count 2 = 2; link 1 59 -1 = 0; count 2 = 1; count 7 = 1");
        runs.run("REFERENCES of OBJECTS that are there, REACHED or not", Runs.KINDS, """
            policy counts 40 first = 40; make 0 0 = 0; make 2 1 = 1; link 0 0 0 = -1; link 0 1 1 = -1; about 1 4 = 2
            root 0 -1 = 0; about 1 4 = 2; clean = 3; about 1 4 = 1
            """);
        runs.run("places in WISHES, and HOLDS; not WEAK, nor a wish", Runs.KINDS, """
            policy counts 40 first = 40; make 2 0 = 0; weak 0 0 = -1; wish 0 = 1; about 0 4 = 1; hold 0 true = 1; about 0 4 = 2
            hold 0 true = 2; about 0 4 = 3; root 0 -1 = 0; hold 0 false = 1; about 0 4 = 1; hold 0 false = 0; count 9 = 1
            about 0 4 = 1; hold 0 true = 1; about 0 4 = 2; root 0 0 = -1; about 0 4 = 3; granted 1 = 0; about 0 4 = 3
            """);
    }

    private static void fallsBy(Runs runs) {
        String two = "policy counts 20 first = 20; make 2 0 = 0; make 0 1 = 1; weak 0 0 = -1; weak 1 1 = -1\n";
        String gone = "; count 2 = 1; count 7 = 1; strong 0 9 = -1; about 1 4 = ";
        runs.run("falls to 0 by root, NOTHING", Runs.KINDS, two, "root 0 -1 = 0" + gone + "1");
        runs.run("falls to 0 by root, another", Runs.KINDS, two, "root 0 1 = 0" + gone + "2");
        runs.run("falls to 0 by strong", Runs.KINDS, two, "strong 1 0 = 1" + gone + "2");
        runs.run("what stands behind a row of REFERENCES counts as it did", Runs.KINDS, """
            policy counts 20 first = 20; make 2 0 = 0; row true 2 1 = 1; row false 2 2 = 2; put 2 0 0 = 0; about 2 0 = 4
            root 1 -1 = 1; count 7 = 3; about 2 4 = 1; about 0 4 = 1; row true 2 1 = 3; about 3 0 = 1; link 3 0 3 = -1
            root 1 -1 = 3; clean = 3; about 2 4 = 1; about 0 4 = 1
            """);
        runs.run("falls to 0 by make", Runs.KINDS, two, "make 2 0 = 2; count 2 = 2; count 7 = 1; strong 0 9 = -1");
        runs.run("falls to 0 by row", Runs.KINDS, two, "row true 3 0 = 2; count 2 = 2; count 7 = 1; strong 0 9 = -1");
        runs.run("falls to 0 by link, NOTHING", Runs.KINDS, two, "link 1 1 0 = -1; root 0 -1 = 0; link 1 1 -1 = 0" + gone + "1");
        runs.run("falls to 0 by link, another", Runs.KINDS, two, "link 1 1 0 = -1; root 0 -1 = 0; link 1 1 1 = 0" + gone + "2");
        runs.run("falls to 0 by hold", Runs.KINDS, two, "hold 0 true = 1; root 0 -1 = 0; hold 0 false = 0" + gone + "1");
        runs.run("falls to 0 by granted", Runs.KINDS, two, "wish 1 = 1; root 1 -1 = 1; granted 0 = 1" + gone + "1");
        runs.run("its words are free at once", Runs.KINDS, two, """
            root 0 -1 = 0; block 0 0 = 0; block 0 1 = 1; make 2 2 = 2; about 2 0 = 0; count 5 = 0
            """);
        runs.run("first room, then the ROOT changes", Runs.KINDS, """
            policy counts 16 first = 16; row false 6 0 = 0; row false 7 0 = 1; about 1 0 = 7; count 2 = 1; block 0 0 = 0
            block 0 1 = 7; block 1 0 = 15
            """);
    }

    private static void setToWhatItHas(Runs runs) {
        runs.run("set to what it has: it does not fall", Runs.KINDS, """
            policy counts 20 first = 20; make 0 0 = 0; make 2 1 = 1; link 0 0 1 = -1; root 1 -1 = 1; weak 0 1 = -1
            link 0 0 1 = 1; about 1 4 = 1; root 0 0 = 0; about 0 4 = 1; count 2 = 2; weak 1 0 = -1; strong 1 0 = 0
            about 0 4 = 1; count 2 = 2; count 7 = 0
            """);
        runs.run("what it had leads to what it has then", Runs.KINDS, """
            policy counts 20 first = 20; make 0 0 = 0; make 2 1 = 1; link 0 0 1 = -1; root 1 -1 = 1; root 0 1 = 0
            count 2 = 1; about 1 4 = 1; count 7 = 3
            """);
    }

    private static void withAWish(Runs runs) {
        runs.run("with a wish it comes to WISHES: no wish then, WEAK of it NOTHING", Runs.KINDS, """
            policy counts 20 first = 20; make 0 0 = 0; make 2 1 = 1; link 0 0 1 = -1; root 1 -1 = 1; wish 0 = 1
            weak 0 0 = -1; weak 15 0 = -1; weak 1 1 = -1; root 0 -1 = 0
            count 9 = 1; count 2 = 2; count 7 = 0; count 5 = 0; about 0 7 = 0; about 0 4 = 1; about 1 4 = 1
            strong 0 9 = -1; strong 15 9 = -1; strong 1 9 = 1; root 9 -1 = 1; granted 0 = 0; get 0 0 = 1
            root 0 -1 = 0; count 2 = 0; strong 1 9 = -1; count 7 = 4
            """);
        runs.run("one in WISHES does not fall by its ROOT", Runs.KINDS, """
            policy counts 20 first = 20; make 2 0 = 0; wish 0 = 1; root 0 -1 = 0; wish 0 = 1; root 3 0 = -1; root 3 -1 = 0
            count 9 = 1; about 0 7 = 1; granted 0 = 0; root 0 -1 = 0; count 9 = 1; about 0 7 = 0; granted 0 = 0
            root 0 -1 = 0; count 9 = 0; count 2 = 0
            """);
    }

    private static void wordAfterWord(Runs runs) {
        runs.run("what so falls to 0 goes ahead of the next word", Runs.KINDS, """
            policy counts 80 first = 80; make 0 0 = 0; make 0 1 = 1; make 2 2 = 2; make 0 3 = 3; make 2 4 = 4; make 2 5 = 5
            link 0 0 1 = -1; link 0 1 5 = -1; link 1 0 3 = -1; link 1 1 4 = -1; link 3 1 2 = -1
            wish 2 = 1; wish 4 = 1; wish 5 = 1
            root 1 -1 = 1; root 2 -1 = 2; root 3 -1 = 3; root 4 -1 = 4; root 5 -1 = 5; count 9 = 0
            root 0 -1 = 0; count 2 = 3; count 9 = 3; granted 0 = 2; granted 1 = 4; granted 2 = 5
            """);
        runs.run("two of its words have the same", Runs.KINDS, """
            policy counts 80 first = 80; make 0 0 = 0; make 0 1 = 1; make 2 2 = 2; link 0 0 1 = -1; link 0 1 1 = -1
            link 1 0 2 = -1; root 1 -1 = 1; root 2 -1 = 2; root 0 -1 = 0; count 2 = 0; count 7 = 7
            """);
        runs.run("it ends where another counts, or a wish is", Runs.KINDS, """
            policy counts 80 first = 80; make 0 0 = 0; make 0 1 = 1; make 0 2 = 2; make 2 3 = 3; link 0 0 1 = -1
            link 1 1 2 = -1; link 2 0 3 = -1; wish 2 = 1; root 2 -1 = 2; root 3 -1 = 3; root 0 -1 = 0
            about 1 4 = 1; count 2 = 3; root 1 -1 = 1; count 2 = 2; count 9 = 1; about 3 4 = 1; about 2 4 = 1
            """);
    }

    private static void cleanedAsBySweep(Runs runs) {
        runs.run("a ring stays up to a cleaning", Runs.KINDS, """
            policy counts 16 first = 16; row true 6 0 = 0; row true 6 1 = 1; link 0 0 1 = -1; link 1 0 0 = -1; weak 0 0 = -1
            root 0 -1 = 0; root 1 -1 = 1; count 2 = 2; strong 0 5 = 0; about 0 4 = 2; root 5 -1 = 0
            make 0 0 = 2; count 5 = 1; count 7 = 14; about 2 0 = 0; strong 0 5 = -1
            """);
        runs.run("FULL", Runs.KINDS, """
            policy counts 16 first = 16; row false 14 0 = 0; make 0 1 = -1; count 5 = 1; count 7 = 0; root 1 -1 = -1
            make 0 0 = -1; root 0 0 = 0; count 5 = 2
            """);
    }

    private static void counting(Runs runs) {
        runs.run("what counts", Runs.KINDS, """
            policy counts 40 first = 40
            make 0 0 = 0; about 0 4 = 1; root 1 0 = -1; about 0 4 = 2; root 1 0 = 0; about 0 4 = 2
            link 0 0 0 = -1; link 0 1 0 = -1; about 0 4 = 4; link 0 1 0 = 0; about 0 4 = 4
            hold 0 true = 1; hold 0 true = 2; about 0 4 = 6; weak 0 0 = -1; wish 0 = 1; about 0 4 = 6
            root 0 -1 = 0; root 1 -1 = 0; about 0 4 = 4; hold 0 false = 1; about 0 4 = 3
            strong 0 9 = 0; about 0 4 = 4; strong 0 9 = 0; about 0 4 = 4
            make 2 9 = 1; about 0 4 = 3; about 1 4 = 1; count 2 = 2
            policy sweep 40 first = 40; make 0 0 = 0; about 0 4 = 0
            """);
    }

    private static void falling(Runs runs) {
        runs.run("gone at once", Runs.KINDS, """
            policy counts 40 best = 40
            make 0 0 = 0; make 0 1 = 1; make 0 2 = 2; link 0 0 1 = -1; link 1 0 2 = -1; link 1 1 2 = -1
            weak 0 0 = -1; weak 1 1 = -1; weak 2 2 = -1
            root 1 -1 = 1; root 2 -1 = 2; about 2 4 = 2; count 2 = 3
            root 0 1 = 0                     # 0 goes, 1 stays by the root
            count 2 = 2; about 1 4 = 1; strong 0 5 = -1; count 7 = 3; count 5 = 0
            link 1 0 -1 = 2; about 2 4 = 1; link 1 1 1 = 2; count 2 = 1; strong 2 5 = -1; count 7 = 6
            block 0 0 = 0; block 0 1 = 3; block 1 0 = 6
            root 0 -1 = 1; count 2 = 1       # it refers to itself
            about 1 0 = !NoSuchElementException; strong 1 6 = 1; about 1 4 = 2; link 1 1 -1 = 1
            make 2 6 = 3; count 2 = 1; count 7 = 9; count 3 = 1; strong 1 6 = -1
            hold 3 true = 1; root 6 -1 = 3; hold 3 false = 0; count 2 = 0; count 7 = 10
            """);
        runs.run("a root that a make takes", Runs.KINDS, """
            policy counts 16 first = 16
            row false 14 0 = 0; make 2 0 = 1; count 7 = 15; about 1 0 = 15; count 5 = 0
            row false 14 0 = 2; row false 13 0 = -1; root 0 2 = 2
            """);
    }

    private static void wishes(Runs runs) {
        runs.run("wishes, ahead of the next word", Runs.KINDS, """
            policy counts 60 next = 60
            make 0 0 = 0; make 0 1 = 1; make 0 2 = 2; make 0 3 = 3; make 2 4 = 4
            link 0 0 1 = -1; link 0 1 2 = -1; link 1 1 3 = -1; link 3 0 4 = -1; wish 2 = 1; wish 3 = 1; wish 4 = 1
            weak 0 2 = -1; weak 1 3 = -1; weak 2 4 = -1
            root 1 -1 = 1; root 2 -1 = 2; root 3 -1 = 3; root 4 -1 = 4
            root 0 -1 = 0                    # 0 and 1 go: 3, then 2 come to the row
            count 2 = 3; count 9 = 2; count 7 = 6; about 3 4 = 1; about 3 7 = 0; about 4 7 = 1; about 4 4 = 1
            strong 0 9 = -1; strong 1 9 = -1; strong 2 9 = 4; root 9 -1 = 4
            granted 0 = 3; about 3 4 = 1; granted 0 = 2     # 3 goes, 4 comes to the row
            count 9 = 1; count 2 = 2; granted 0 = 4; count 2 = 1; granted 0 = -1; count 2 = 1; about 4 4 = 1
            wish 4 = 1; root 0 -1 = 4; count 9 = 1; about 4 4 = 1; root 0 4 = -1; granted 0 = 4; about 4 4 = 1
            """);
    }

    private static void cleaning(Runs runs) {
        runs.run("a cleaning takes rings", Runs.KINDS, """
            policy counts 20 first = 20
            make 0 0 = 0; make 0 1 = 1; make 2 2 = 2; link 0 0 1 = -1; link 1 1 0 = -1; link 1 0 2 = -1
            link 0 1 2 = -1; root 0 -1 = 0; root 1 -1 = 1; about 2 4 = 3; count 12 = 0; count 2 = 3; count 7 = 0
            clean = 6; about 2 4 = 1; count 2 = 1; count 7 = 6; count 5 = 1
            make 0 0 = 3; link 3 0 3 = -1; wish 3 = 1; weak 0 3 = -1; root 0 -1 = 3; count 9 = 0
            clean = 0; count 9 = 1; about 3 4 = 2; strong 0 5 = -1; granted 0 = 3; about 3 4 = 2
            root 0 -1 = 3; clean = 3; count 2 = 1
            row true 10 0 = 4; link 4 9 4 = -1; root 0 -1 = 4
            about 2 0 = 6; row true 12 1 = 5; about 5 0 = 7; count 5 = 4; count 7 = 20    # the ring goes for it
            """);
    }

    private static void longChain(Runs runs) {
        StringBuilder chain = new StringBuilder("kind 1 1 = 0; policy counts 1500 first = 1500; make 0 0 = 0\n");
        for (int n = 1; n < 240; n++) {
            chain.append("make 0 ").append(n % 2).append(" = ").append(n).append("; link ").append(n).append(" 0 ")
                .append(n - 1).append(" = -1\n");
        }
        runs.run("a long chain goes", chain.toString(), """
            root 0 -1 = 238; count 2 = 240; root 1 -1 = 239; count 2 = 0; count 7 = 480; block 0 1 = 1500
            """);
    }
}
