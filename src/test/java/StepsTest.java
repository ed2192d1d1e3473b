/** The policy steps, and promise 18 (step). */
public final class StepsTest {
    // 0 refers to 1, 1 to 2; 3 has 22 words; the last make begins to mark, and does one step.
    private static final String MARKING = """
        make 0 0 = 0; make 0 1 = 1; make 0 2 = 2; link 0 0 1 = -1; link 1 0 2 = -1; root 1 -1 = 1; root 2 -1 = 2
        row false 21 3 = 3; count 12 = 0; step 5 = 0; about 0 5 = 0; count 10 = 0
        make 2 4 = 4; about 4 0 = 31; count 12 = 1; count 10 = 2
        about 0 5 = 2; about 1 5 = 1; about 2 5 = 0; about 3 5 = 1; about 4 5 = 2
        """;

    public static void main(String[] args) {
        Runs runs = new Runs();
        wrongCalls(runs);
        quarter(runs);
        picture(runs);
        news(runs);
        strong(runs);
        ending(runs);
        cleaning(runs);
        noRoom(runs);
        quarterEdges(runs);
        greyRow(runs);
        rate(runs);
        pictureOfRoots(runs);
        setToWhatItHas(runs);
        newsOfHolds(runs);
        noRoomEdges(runs);
        nextGoesOn(runs);
        runs.finish();
    }

    private static void quarterEdges(Runs runs) {
        for (int room = 40; room <= 43; room++) {
            int enough = (room + 3) / 4;
            runs.run("just a quarter is free: IDLE", Runs.KINDS, "policy steps " + room + " first 1 picture = " + room
                + "; row false " + (room - enough - 1) + " 0 = 0; make 2 1 = 1; count 12 = 0; count 5 = 0; count 10 = 0");
            runs.run("less than a quarter is free: MARKING", Runs.KINDS, "policy steps " + room + " first 1 picture = " + room
                + "; make 2 0 = 0; row false " + (room - enough - 1) + " 1 = 1; count 12 = 0"
                + "; make 2 2 = 2; count 12 = 1; count 5 = 0; count 10 = 1");
        }
        runs.run("before it looks for room, also if it is FULL", Runs.KINDS, """
            policy steps 40 first 1 picture = 40; make 2 0 = 0; row false 29 1 = 1; root 1 -1 = 1; count 12 = 0
            row false 30 2 = 2; about 2 0 = 1; count 5 = 1; count 7 = 30; count 8 = 3
            """);
    }

    private static void greyRow(Runs runs) {
        runs.run("GREY: what ROOTS, rising, WISHES, held ones by NUMBER lead to, each once", Runs.KINDS, """
            policy steps 40 first 1 picture = 40; make 2 0 = 0; make 2 1 = 1; make 2 2 = 2; make 2 3 = 3; make 2 4 = 4
            row false 24 5 = 5; wish 1 = 1; root 1 -1 = 1; clean = 0; count 9 = 1
            hold 4 true = 1; hold 0 true = 1; root 0 5 = 0; root 5 -1 = 5; hold 2 true = 1; root 2 -1 = 2; root 9 3 = -1
            make 2 6 = 6; count 12 = 0
            make 2 7 = 7; count 12 = 1; count 10 = 6     # 5 is BLACK; 3, 4, 6 by ROOTS, 1 by WISHES, 0 and 2 held
            about 5 5 = 2; about 3 5 = 1; step 1 = 1; about 3 5 = 2; about 4 5 = 1; step 1 = 1; about 4 5 = 2; about 6 5 = 1
            step 1 = 1; about 6 5 = 2; about 1 5 = 1; step 1 = 1; about 1 5 = 2; about 0 5 = 1; step 1 = 1; about 0 5 = 2
            about 2 5 = 1; count 10 = 1; step 1 = 1; count 12 = 0
            """);
        runs.run("a STEP: word after word, each once", Runs.KINDS, """
            policy steps 40 first 1 picture = 40; make 3 0 = 0; make 2 1 = 1; make 2 2 = 2; make 2 3 = 3; row false 18 4 = 4
            link 0 7 1 = -1; link 0 0 3 = -1; link 0 1 3 = -1; link 0 2 2 = -1; link 0 3 0 = -1
            root 1 -1 = 1; root 2 -1 = 2; root 3 -1 = 3; make 2 5 = 5; count 12 = 1; count 10 = 4    # 4, 3, 2, 1
            step 2 = 2; about 4 5 = 2; about 3 5 = 2; about 2 5 = 1; step 1 = 1; about 2 5 = 2; about 1 5 = 1
            """);
    }

    private static void rate(Runs runs) {
        String six = """
            make 2 0 = 0; make 2 1 = 1; make 2 2 = 2; make 2 3 = 3; make 2 4 = 4; row false 25 5 = 5; count 12 = 0
            """;
        runs.run("RATE STEPS ahead", Runs.KINDS, "policy steps 40 first 1 picture = 40\n", six, """
            make 2 6 = 6; count 12 = 1; count 10 = 5; about 6 5 = 2; make 2 7 = 7; count 10 = 4; about 7 5 = 2
            """);
        runs.run("RATE 5, one is left", Runs.KINDS, "policy steps 40 first 5 picture = 40\n", six, """
            make 2 6 = 6; count 12 = 1; count 10 = 1; about 6 5 = 2
            make 2 7 = 7; count 12 = 0; count 5 = 1; about 7 5 = 0       # fewer, as the row is empty
            """);
        runs.run("RATE 6: it began and ends", Runs.KINDS, "policy steps 40 first 6 picture = 40\n", six, """
            make 2 6 = 6; count 12 = 0; count 10 = 0; count 5 = 1; about 6 5 = 0
            """);
        runs.run("RATE 50", Runs.KINDS, "policy steps 40 first 50 news = 40\n", six, "make 2 6 = 6; count 12 = 0; count 5 = 1");
        runs.run("what is made is BLACK, and stays in this one", Runs.KINDS, "policy steps 40 first 1 news = 40\n", six, """
            make 2 6 = 6; make 2 6 = 7; count 10 = 4; step 4 = 4; count 12 = 0; count 7 = 0; count 2 = 8; clean = 1
            """);
    }

    private static void pictureOfRoots(Runs runs) {
        String white = "policy steps 40 first 1 picture = 40\n" + MARKING + "root 5 2 = -1; about 2 5 = 0; count 10 = 2\n";
        runs.run("picture: what a ROOT had, by root", Runs.KINDS, white, "root 5 0 = 2; about 2 5 = 1; count 10 = 3");
        runs.run("picture: what a ROOT had, by make", Runs.KINDS, white, """
            make 2 5 = 5; about 2 5 = 1; count 10 = 2; about 3 5 = 2; about 5 5 = 2
            """);
        runs.run("picture: what a ROOT had, by strong", Runs.KINDS, white, """
            weak 0 0 = -1; strong 0 5 = 0; about 2 5 = 1; count 10 = 3; root 5 0 = 0
            """);
        runs.run("picture: what a ROOT had, by granted", Runs.KINDS, """
            policy steps 40 first 1 picture = 40; make 2 9 = 0; wish 0 = 1; root 9 -1 = 0; clean = 0
            make 0 0 = 1; make 0 1 = 2; make 0 2 = 3; link 1 0 2 = -1; link 2 0 3 = -1; root 1 -1 = 2; root 2 -1 = 3
            row false 20 3 = 4; make 2 4 = 5; count 12 = 1; count 10 = 3; about 3 5 = 0; root 5 3 = -1; about 3 5 = 0
            granted 5 = 0; about 3 5 = 1; count 10 = 4
            """);
        runs.run("picture: what a REFERENCE had", Runs.KINDS, "policy steps 40 first 1 picture = 40\n", MARKING, """
            link 1 0 0 = 2; count 10 = 3; about 0 5 = 2
            """);
        runs.run("picture: not what it has then", Runs.KINDS, "policy steps 40 first 1 picture = 40\n", MARKING, """
            link 0 1 2 = -1; root 6 2 = -1; about 2 5 = 0; count 10 = 2
            """);
        runs.run("picture: IDLE, nothing comes", Runs.KINDS, """
            policy steps 40 first 1 picture = 40; make 0 0 = 0; make 0 1 = 1; link 0 0 1 = -1; link 0 0 -1 = 1; root 1 0 = 1
            count 10 = 0; count 12 = 0; weak 0 0 = -1; strong 0 5 = 0; about 0 5 = 0; count 10 = 0
            """);
    }

    private static void setToWhatItHas(Runs runs) {
        for (String barrier : new String[] {"picture", "news"}) {
            runs.run("not if it is set to what it has: " + barrier, Runs.KINDS,
                "policy steps 40 first 1 " + barrier + " = 40\n", MARKING, """
                link 1 0 2 = 2; about 2 5 = 0; count 10 = 2; root 0 0 = 0; root 7 -1 = -1; link 0 1 -1 = -1; count 10 = 2
                """);
        }
        runs.run("not if it is set to what it has: a ROOT, picture", Runs.KINDS, "policy steps 40 first 1 picture = 40\n",
            MARKING, "root 5 2 = -1; root 5 2 = 2; about 2 5 = 0; count 10 = 2");
        runs.run("strong, although the ROOT has it: GREY then, if it was WHITE", Runs.KINDS,
            "policy steps 40 first 1 picture = 40\n", MARKING,
            "root 5 2 = -1; weak 0 2 = -1; about 2 5 = 0; strong 0 5 = 2; about 2 5 = 1; count 10 = 3; strong 0 5 = 2; count 10 = 3");
        runs.run("news: NOTHING comes to no row", Runs.KINDS, "policy steps 40 first 1 news = 40\n", MARKING, """
            link 1 0 -1 = 2; root 0 -1 = 0; count 10 = 2; link 3 0 -1 = !ClassCastException; root 5 4 = -1; count 10 = 2
            """);
    }

    private static void newsOfHolds(Runs runs) {
        // 2 refers to 5, which nothing else does; both are WHITE, and 2 is held.
        String held = """
            policy steps 42 first 1 news = 42; make 0 0 = 0; make 0 1 = 1; make 0 2 = 2; make 2 5 = 3; link 0 0 1 = -1
            link 1 0 2 = -1; link 2 1 3 = -1; root 1 -1 = 1; root 2 -1 = 2; root 5 -1 = 3; row false 21 4 = 4; count 12 = 0
            make 2 6 = 5; count 12 = 1; count 10 = 2; hold 2 true = 1; link 1 0 -1 = 2; about 2 5 = 0; about 3 5 = 0
            """;
        runs.run("news: it goes on, next time, behind step", Runs.KINDS, held, """
            step 2 = 2; count 12 = 1; count 10 = 1; about 2 5 = 1; about 3 5 = 0; step 1 = 1; about 3 5 = 1; count 12 = 1
            step 1 = 1; count 12 = 0; count 7 = 0; count 5 = 1
            """);
        runs.run("news: it goes on, next time, behind the STEPS of a make", Runs.KINDS, held, """
            make 2 7 = 6; count 10 = 1; make 2 8 = 7; count 12 = 1; count 10 = 1; about 2 5 = 1; about 7 5 = 2
            make 2 9 = 8; count 12 = 1; about 3 5 = 1; make 2 10 = 9; count 12 = 0; count 5 = 1; count 7 = 0; about 9 5 = 0
            """);
        runs.run("news: clean does it all", Runs.KINDS, held, "clean = 0; count 12 = 0; get 2 1 = 3; about 3 1 = 1; count 5 = 1");
        runs.run("news: a make that has no room does it all", Runs.KINDS, held, """
            row false 30 7 = -1; count 12 = 0; get 2 1 = 3; about 3 1 = 1; count 5 = 2; count 7 = 0
            """);
    }

    private static void noRoomEdges(Runs runs) {
        runs.run("MARKING to its end, and there is room: no whole one", Runs.KINDS, """
            policy steps 40 first 1 picture = 40; make 2 0 = 0; row false 19 1 = 1; row false 9 2 = 2; root 1 -1 = 1
            make 2 3 = 3; count 12 = 1; count 10 = 1
            row false 14 4 = 4; count 12 = 0; count 5 = 1; count 7 = 20; about 4 0 = 1; count 8 = 5
            """);
        runs.run("begun by this make: to its end, then a whole one", Runs.KINDS, """
            policy steps 40 first 1 picture = 40; make 2 0 = 0; row false 19 1 = 1; row false 9 2 = 2; count 12 = 0; count 8 = 3
            row false 14 3 = -1; count 5 = 2; count 12 = 0; count 8 = 6; count 4 = 3; root 3 -1 = -1
            """);
        runs.run("IDLE: a whole one, and no more", Runs.KINDS, """
            policy steps 40 first 1 picture = 40; make 2 0 = 0; row false 19 1 = 1; count 12 = 0; count 8 = 2
            row false 29 3 = -1; count 5 = 1; count 12 = 0; count 8 = 4; root 3 -1 = -1
            root 1 -1 = 1; row false 29 3 = 2; about 2 0 = 1; count 5 = 2; count 7 = 20; count 8 = 6
            """);
        runs.run("what is made behind a whole one is of no colour", Runs.KINDS, """
            policy steps 40 first 1 news = 40; row false 31 0 = 0; root 0 -1 = 0; row false 31 1 = 1; count 12 = 0; about 1 5 = 0
            """);
    }

    private static void nextGoesOn(Runs runs) {
        runs.run("FORM next: from the end of the one that was made last, while MARKING", Runs.KINDS, """
            policy steps 20 next 1 picture = 20; make 0 0 = 0; make 0 1 = 1; make 0 2 = 2; row false 6 3 = 3; root 0 -1 = 0
            clean = 3; make 2 4 = 4; about 4 0 = 16; make 2 5 = 5; about 5 0 = 17; count 12 = 0; make 2 6 = 6; about 6 0 = 18
            make 2 7 = 7; count 12 = 1; about 7 0 = 19; make 2 8 = 8; about 8 0 = 0
            """);
    }

    private static void wrongCalls(Runs runs) {
        runs.run("step", """
            step 0 = !IllegalStateException; step -1 = !IllegalArgumentException; step 1001 = !IllegalArgumentException
            policy sweep 40 first = 40; step 0 = !UnsupportedOperationException; step 1001 = !IllegalArgumentException
            policy ages 16 16 1 4 = 48; step 1 = !UnsupportedOperationException
            policy steps 40 first 1 news = 40; step 1000 = 0; step 0 = 0; step 1001 = !IllegalArgumentException
            count 5 = 0
            """);
    }

    private static void quarter(Runs runs) {
        runs.run("less than a quarter is free", Runs.KINDS, """
            policy steps 42 first 1 picture = 42
            row true 14 0 = 0; row false 14 1 = 1; count 3 = 30; count 12 = 0
            make 2 2 = 2; count 12 = 0       # 12 were free, now 11
            make 2 3 = 3; count 12 = 0       # 11 were free: a quarter is 10 and a half
            make 2 4 = 4; count 12 = 1; about 0 5 = 2; about 4 5 = 2; about 1 5 = 1; about 2 5 = 1; count 10 = 3
            make 2 5 = 5; count 10 = 2; make 2 5 = 6; count 10 = 1; about 6 5 = 2
            make 2 6 = 7; count 12 = 0; count 5 = 1; count 7 = 0; count 2 = 8    # 5 was made BLACK
            """);
    }

    private static void picture(Runs runs) {
        runs.run("picture: what it had", Runs.KINDS, "policy steps 40 first 1 picture = 40\n", MARKING, """
            link 1 0 2 = 2; count 10 = 2     # set to what it has
            link 1 0 -1 = 2; count 10 = 3; about 2 5 = !NoSuchElementException
            link 0 0 -1 = 1; count 10 = 3    # GREY already
            step 2 = 2; count 10 = 1; count 12 = 1
            step 5 = 1; count 12 = 0; count 10 = 0; count 5 = 1; count 2 = 5; about 0 5 = 0
            clean = 6; count 5 = 2
            """);
        runs.run("picture: roots", Runs.KINDS, "policy steps 40 first 1 picture = 40\n", MARKING, """
            root 5 2 = -1; count 10 = 2; about 2 5 = 0
            root 5 -1 = 2; count 10 = 3; about 2 5 = 1
            step 3 = 3; count 12 = 0; count 5 = 1
            """);
        runs.run("picture: a root that a make takes", Runs.KINDS, "policy steps 40 first 1 picture = 40\n", MARKING, """
            root 5 2 = -1; make 2 5 = 5; count 10 = 2; about 2 5 = 1; about 3 5 = 2; about 1 5 = 1
            """);
    }

    private static void news(Runs runs) {
        runs.run("news: what goes unseen is free", Runs.KINDS, "policy steps 40 first 1 news = 40\n", MARKING, """
            link 1 0 -1 = 2; count 10 = 2
            step 1000 = 2; count 12 = 0; count 5 = 1; count 7 = 3; count 2 = 4
            """);
        runs.run("news: what it has then", Runs.KINDS, "policy steps 40 first 1 news = 40\n", MARKING, """
            link 0 1 2 = -1; count 10 = 3; about 2 5 = 1; link 0 1 2 = 2; count 10 = 3
            step 0 = 0; step 3 = 3; count 12 = 0; count 7 = 0
            """);
        runs.run("news: roots", Runs.KINDS, "policy steps 40 first 1 news = 40\n", MARKING, """
            root 5 2 = -1; count 10 = 3; about 2 5 = 1; root 5 -1 = 2; count 10 = 3
            """);
        runs.run("news: what is held comes at the end", Runs.KINDS, "policy steps 40 first 1 news = 40\n", MARKING, """
            hold 2 true = 1; about 2 5 = 0; link 1 0 -1 = 2; step 5 = 2; count 12 = 1; count 10 = 1; about 2 5 = 1
            step 0 = 0; step 1 = 1; count 12 = 0; count 7 = 0; about 2 0 = 6
            """);
    }

    private static void strong(Runs runs) {
        runs.run("strong", Runs.KINDS, "policy steps 40 first 1 picture = 40\n", """
            make 0 0 = 0; make 0 1 = 1; make 0 2 = 2; weak 0 1 = -1; weak 1 2 = -1; root 1 -1 = 1; root 2 -1 = 2
            row false 21 3 = 3; make 2 4 = 4; count 12 = 1; count 10 = 1; about 0 5 = 2; about 3 5 = 1
            strong 0 6 = 1; about 1 5 = 1; count 10 = 2
            strong 0 7 = 1; count 10 = 2
            strong 5 6 = -1; root 6 1 = 1
            step 9 = 2; count 12 = 0; count 7 = 3; strong 1 6 = -1; about 1 0 = 3
            """);
        runs.run("strong by news", Runs.KINDS, "policy steps 40 first 1 news = 40\n", """
            make 0 0 = 0; make 0 1 = 1; weak 0 1 = -1; root 1 -1 = 1
            row false 24 3 = 2; make 2 4 = 3; count 12 = 1; count 10 = 1
            strong 0 0 = 1; about 1 5 = 1; count 10 = 2; strong 0 0 = 1; count 10 = 2
            """);
    }

    private static void ending(Runs runs) {
        runs.run("wishes and weak ones at the end", Runs.KINDS, "policy steps 40 first 2 picture = 40\n", """
            make 0 0 = 0; make 0 1 = 1; make 0 2 = 2; make 2 3 = 3; make 2 4 = 4; row false 19 5 = 5
            link 1 0 2 = -1; wish 1 = 1; wish 2 = 1; weak 0 1 = -1; weak 1 2 = -1; weak 2 3 = -1; weak 3 4 = -1
            hold 4 true = 1; root 1 -1 = 1; root 2 -1 = 2; root 3 -1 = 3; root 4 -1 = 4
            make 2 6 = 6; count 12 = 1; count 10 = 1; about 4 5 = 1     # 0 and 5 by roots, 4 as it is held
            make 2 7 = 7                     # one step is left: it ends
            count 12 = 0; count 5 = 1; count 7 = 1; count 9 = 1
            about 7 0 = 9                    # where 3 was
            strong 0 9 = -1; strong 2 9 = -1; strong 1 9 = 2; root 9 -1 = 2; strong 3 9 = 4; about 2 7 = 1
            """);
    }

    private static void cleaning(Runs runs) {
        runs.run("clean does it all", Runs.KINDS, "policy steps 40 first 1 picture = 40\n", MARKING, """
            link 1 0 -1 = 2; root 0 -1 = 0; clean = 0; count 5 = 1; count 12 = 0; clean = 9; count 5 = 2; count 2 = 2
            """);
        runs.run("clean, by news", Runs.KINDS, "policy steps 40 first 1 news = 40\n", MARKING, """
            hold 2 true = 1; link 1 0 -1 = 2; clean = 0; count 5 = 1; count 12 = 0
            hold 2 false = 0; clean = 3; count 5 = 2; clean = 0; count 5 = 3; count 7 = 3
            """);
        runs.run("an empty row at once", Runs.KINDS, "policy steps 16 worst 1 picture = 16\n", """
            row false 14 0 = 0; root 0 -1 = 0
            make 2 0 = 1; count 12 = 0; count 5 = 1; count 7 = 15; about 1 0 = 0; count 8 = 2
            """);
    }

    private static void noRoom(Runs runs) {
        runs.run("idle: a whole one", Runs.KINDS, "policy steps 20 first 1 picture = 20\n", """
            row false 7 0 = 0; row false 6 1 = 1; count 3 = 15; root 1 -1 = 1
            row false 9 2 = 2; count 5 = 1; count 7 = 7; about 2 0 = 8; count 12 = 0; count 8 = 4
            root 2 -1 = 2
            row false 12 3 = -1; count 7 = 17; count 12 = 0
            count 5 = 3                      # one that ended ahead of the look for room, and a whole one
            """);
        runs.run("marking: to its end, then a whole one", Runs.KINDS, "policy steps 40 first 1 picture = 40\n", MARKING, """
            root 3 -1 = 3; step 0 = 0        # 3 is GREY: this marking keeps it
            count 5 = 0; count 8 = 5
            row false 19 5 = 5; about 5 0 = 9; count 5 = 2; count 7 = 22; count 12 = 0
            count 8 = 8                      # ahead, behind the one, behind the other
            """);
        runs.run("marking: still none", Runs.KINDS, "policy steps 40 first 1 news = 40\n", MARKING, """
            row false 39 5 = -1; count 5 = 2; count 12 = 0; count 7 = 0; count 4 = 5
            row false 9 5 = -1; count 5 = 4
            """);
    }
}
