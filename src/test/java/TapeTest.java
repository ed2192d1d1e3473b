/** Promises 1 (a new object), 2 (feed), 3 (end), 4 (kind), 5 (heap). */
public final class TapeTest {
    public static void main(String[] args) {
        Runs runs = new Runs();
        newHouse(runs);
        tape(runs);
        kinds(runs);
        policies(runs);
        broken(runs);
        newHeap(runs);
        runs.finish();
    }

    private static void newHouse(Runs runs) {
        runs.run("a new house", """
            count 0 = 0; count 1 = 0
            count 2 = !IllegalStateException; count 13 = !IllegalStateException
            count -1 = !IllegalArgumentException; count 14 = !IllegalArgumentException
            clean = !IllegalStateException; get 0 0 = !IllegalStateException
            make 0 0 = !IllegalArgumentException
            row true 0 0 = !IllegalStateException
            """);
    }

    private static void tape(Runs runs) {
        runs.run("the tape", """
            feed 1 2 3 4 5 = 20; count 0 = 20
            feed -1 -2 -3 -4 -5 = 40; feed 0 0 0 0 0 = 60; feed 0 0 0 0 0 = 80
            end 81 = !IllegalArgumentException; end -1 = !IllegalArgumentException; count 0 = 80
            end 80 = 80
            feed 0 0 0 0 0 = 100
            feed 0 0 0 0 0 = !IndexOutOfBoundsException; count 0 = 100
            end 81 = 81
            feed 0 0 0 0 0 = !IndexOutOfBoundsException; count 0 = 81
            end 80 = 80; feed 0 0 0 0 0 = 100
            end 0 = 0; end 1 = !IllegalArgumentException; end 0 = 0
            heap = -1; count 0 = 0
            """);
        // "slid", "e 16", blanks: the highest byte of each int is the first.
        runs.run("bytes in order", "feed 1936484708 1696608566 538976288 538976288 538976288 = 20; heap = 16; count 0 = 0");
        // Behind the end there is a blank, but not of the tape.
        runs.run("the length, if something lacks", """
            feed 1936484708 1696608566 538976288 538976288 538976288 = 20; end 5 = 5; heap = -6
            """);
        // What is cut off by end does not come back.
        runs.run("end forgets", """
            feed 1936484708 1696608566 538976288 538976288 538976288 = 20
            end 6 = 6; feed 825696288 538976288 538976288 538976288 538976288 = 26; heap = 17
            """);
    }

    private static void kinds(Runs runs) {
        StringBuilder sixteen = new StringBuilder();
        for (int i = 0; i < 16; i++) {
            sixteen.append("count 1 = ").append(i).append("; kind 8 255 = ").append(i).append('\n');
        }
        runs.run("sixteen kinds", sixteen.toString(), """
            count 1 = 16; kind 0 0 = !IllegalStateException; kind 9 0 = !IllegalArgumentException; count 1 = 16
            policy slide 64 = 64
            make 15 0 = 0; make 16 0 = !IllegalArgumentException; make 17 0 = !IllegalArgumentException
            """);
        runs.run("kinds out of range", """
            kind -1 0 = !IllegalArgumentException; kind 9 0 = !IllegalArgumentException
            kind 2 4 = !IllegalArgumentException; kind 2 -1 = !IllegalArgumentException
            kind 0 1 = !IllegalArgumentException; kind 8 256 = !IllegalArgumentException
            count 1 = 0; kind 0 0 = 0; kind 8 0 = 1; kind 2 2 = 2
            policy slide 64 = 64; make 2 0 = 0
            get 0 0 = 0; get 0 1 = -1
            """);
    }

    private static void policies(Runs runs) {
        runs.run("whole policies", """
            policy sweep 16 first = 16; policy sweep 1500 next = 1500
            policy sweep 00017 best = 17; policy sweep 40 worst = 40
            policy slide 33 = 33; policy halves 33 = 66
            policy ages 16 1500 1 4 = 1532; policy ages 1500 16 7 64 = 3016
            policy counts 20 best = 20
            policy steps 20 first 1 picture = 20; policy steps 20 next 50 news = 20
            policy regions 64 16 0 = 64; policy regions 1500 256 100 = 1280; policy regions 1024 256 5 = 1024
            """);
        check(runs, "   slide   20  ", 20);
        check(runs, "slide 20", 20);
        check(runs, "  ages  16   16 1    4", 48);
    }

    private static void broken(Runs runs) {
        check(runs, "", -1);
        check(runs, "   ", -4);
        check(runs, "sweeps 40 first", -1);
        check(runs, "  Sweep 40 first", -3);
        check(runs, "sweep", -6);
        check(runs, "sweep  ", -8);
        check(runs, "sweep 40", -9);
        check(runs, "sweep 40 ", -10);
        check(runs, "sweep 40 firs", -10);
        check(runs, "sweep 40 first x", -16);
        check(runs, "sweep 40 first  9 ", -17);
        check(runs, "sweep 40first", -7);
        check(runs, "sweep 4x first", -7);
        check(runs, "sweep -40 first", -7);
        check(runs, "sweep first 40", -7);
        check(runs, "sweep 15 first", -7);
        check(runs, "sweep 1501 first", -7);
        check(runs, "sweep 000040 first", -7);
        check(runs, "sweep 99999 first", -7);
        check(runs, "sweep 40 first\0", -10);
        check(runs, "sweep\t40 first", -1);
        check(runs, "sweep 40 f\u00e9rst", -10);
        check(runs, "slide 15", -7);
        check(runs, "slide 16 first", -10);
        check(runs, "halves 1501", -8);
        check(runs, "ages 15 16 1 4", -6);
        check(runs, "ages 16 15 1 4", -9);
        check(runs, "ages 16 16 0 4", -12);
        check(runs, "ages 16 16 8 4", -12);
        check(runs, "ages 16 16 1 3", -14);
        check(runs, "ages 16 16 1 65", -14);
        check(runs, "ages 16 16 1", -13);
        check(runs, "steps 20 first 0 news", -16);
        check(runs, "steps 20 first 51 news", -16);
        check(runs, "steps 20 first 5 new", -18);
        check(runs, "steps 20 first 5", -17);
        check(runs, "regions 64 15 0", -12);
        check(runs, "regions 1500 257 0", -14);
        check(runs, "regions 63 16 0", -12);
        check(runs, "regions 1023 256 0", -14);
        check(runs, "regions 64 16 101", -15);
        check(runs, "regions 64 16", -14);
    }

    private static void check(Runs runs, String text, int want) {
        CollectorHouse house = new CollectorHouse();
        Runs.feed(house, text);
        runs.expect("heap of '" + text + "'", String.valueOf(house.heap()), String.valueOf(want));
        runs.expect("the tape behind '" + text + "'", String.valueOf(house.count(0)), "0");
    }

    private static void newHeap(Runs runs) {
        runs.run("a new heap in place of what was", Runs.KINDS, """
            policy slide 20 = 20
            make 0 0 = 0; make 1 1 = 1; weak 3 1 = -1; wish 1 = 1; root 1 -1 = 1; root 0 -1 = 0; clean = 3
            count 2 = 1; count 9 = 1; count 5 = 1; count 6 = 4; count 7 = 3
            policy slide 12x = -7            # what was stays
            about 1 0 = 0; count 9 = 1; count 4 = 2; weak 3 -1 = -1
            policy sweep 30 first = 30
            count 1 = 4; count 2 = 0; count 3 = 0; count 4 = 0; count 5 = 0; count 6 = 0; count 7 = 0; count 8 = 0
            count 9 = 0; about 1 0 = !NoSuchElementException
            root 0 -1 = -1; root 1 -1 = -1; weak 3 -1 = -1
            make 2 0 = 0; about 0 6 = 0; about 0 7 = 0
            """);
        runs.run("words are new in a new heap", Runs.KINDS, """
            policy slide 20 = 20; row false 19 0 = 0; put 0 3 5 = 0; put 0 18 -1 = 0
            policy slide 20 = 20; row false 19 0 = 0; get 0 3 = 0; get 0 18 = 0
            policy steps 16 first 1 news = 16; row false 6 0 = 0; row false 5 1 = 1; make 2 2 = 2; count 12 = 1
            policy steps 16 first 1 news = 16; count 12 = 0; count 10 = 0
            policy ages 16 16 1 4 = 48; row true 8 0 = 0; make 2 1 = 1; link 0 0 1 = -1; count 10 = 1
            policy ages 16 16 1 4 = 48; count 10 = 0; count 11 = 16; count 13 = 0
            policy regions 64 16 50 = 64; row false 15 0 = 0; row false 15 1 = 1; count 10 = 2; count 13 = 1
            policy regions 64 16 50 = 64; count 10 = 4; count 13 = 0; count 11 = 0
            """);
    }
}
