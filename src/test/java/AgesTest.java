/** The policy ages. */
public final class AgesTest {
    public static void main(String[] args) {
        Runs runs = new Runs();
        minorAndMajor(runs);
        promoted(runs);
        oldTooFull(runs);
        justEnough(runs);
        largeOnes(runs);
        majorAlone(runs);
        wishes(runs);
        aboveHalf(runs);
        youngRoom(runs);
        agePolicy(runs);
        lookAtOld(runs);
        cards(runs);
        dirtySince(runs);
        minorOrder(runs);
        minorKeepsOld(runs);
        minorThenMajor(runs);
        majorLeavesYoung(runs);
        oldIsSlid(runs);
        greatest(runs);
        runs.finish();
    }

    private static void aboveHalf(Runs runs) {
        runs.run("SIZE of YOUNG / 2 in YOUNG, above in OLD", """
            policy ages 16 30 2 4 = 62; row false 7 0 = 0; about 0 0 = 30; row false 8 1 = 1; about 1 0 = 0; count 13 = 9
            count 11 = 38
            """);
        runs.run("YOUNG / 2 of an odd YOUNG", """
            policy ages 17 30 2 4 = 64; row false 7 0 = 0; about 0 0 = 30; row false 8 1 = 1; about 1 0 = 0
            """);
        runs.run("in OLD at its TOP, up to its last word", """
            policy ages 16 18 2 4 = 50; row false 8 0 = 0; row false 8 1 = 1; about 1 0 = 9; count 13 = 18; count 5 = 0
            row false 8 2 = -1; count 5 = 1; count 4 = 2; root 2 -1 = -1; row false 0 2 = 2; count 5 = 1
            """);
        runs.run("it is above all of OLD", """
            policy ages 16 20 2 4 = 52; row false 20 0 = -1; count 5 = 1; row false 19 0 = 0; about 0 0 = 0; count 13 = 20
            count 5 = 1
            """);
    }

    private static void youngRoom(Runs runs) {
        runs.run("YOUNG up to its last word", """
            policy ages 16 16 2 4 = 48; row false 7 0 = 0; row false 7 1 = 1; about 1 0 = 24; count 11 = 32; count 5 = 0
            row false 0 2 = 2                # a minor one; a major and a minor one: both are OLD now
            count 5 = 3; about 0 0 = 0; about 1 0 = 8; count 13 = 16; about 2 0 = 16; count 11 = 17
            """);
        runs.run("the other half, then the first again", """
            policy ages 16 16 3 4 = 48; row false 0 0 = 0; clean = 0; about 0 0 = 32; count 11 = 33; clean = 0; about 0 0 = 16
            count 11 = 17; row false 0 1 = 1; about 1 0 = 17
            """);
    }

    private static void agePolicy(Runs runs) {
        for (int age = 1; age <= 7; age++) {
            StringBuilder all = new StringBuilder("policy ages 16 20 " + age + " 4 = 52; row false 2 0 = 0\n");
            for (int times = 1; times < age; times++) {
                all.append("clean = 0; about 0 3 = ").append(times).append("; about 0 0 = ").append(times % 2 == 1 ? 36 : 20)
                    .append("; count 13 = 0\n");
            }
            all.append("clean = 0; about 0 3 = ").append(age).append("; about 0 0 = 0; count 13 = 3\n");
            all.append("clean = 0; about 0 3 = ").append(age).append("; about 0 0 = 0; count 13 = 3");
            runs.run("if that is AGE of POLICY it comes to TOP of OLD: " + age, all.toString());
        }
        runs.run("a major one makes none older", """
            policy ages 16 20 3 4 = 52; row false 2 0 = 0; row false 19 1 = 1; row false 8 2 = -1; count 5 = 1; about 0 3 = 0
            """);
    }

    private static void lookAtOld(Runs runs) {
        runs.run("OLD has as many words: no major one", Runs.KINDS, """
            policy ages 16 25 1 4 = 57; row false 8 0 = 0; make 1 1 = 1; make 1 2 = 2; make 1 3 = 3; make 1 4 = 4
            root 0 -1 = 0; make 2 5 = 5; count 5 = 1; count 13 = 25; count 2 = 6; about 4 0 = 21; about 5 0 = 41
            """);
        runs.run("OLD has one word fewer: a major one, then a minor one", Runs.KINDS, """
            policy ages 16 24 1 4 = 56; row false 8 0 = 0; make 1 1 = 1; make 1 2 = 2; make 1 3 = 3; make 1 4 = 4
            root 0 -1 = 0; make 2 5 = 5; count 5 = 2; count 13 = 16; count 2 = 5; count 7 = 9; about 1 0 = 0; about 5 0 = 40
            """);
        runs.run("still fewer: no minor one", Runs.KINDS, """
            policy ages 16 24 1 4 = 56; row false 8 0 = 0; make 1 1 = 1; make 1 2 = 2; make 1 3 = 3; make 1 4 = 4
            make 2 5 = -1; count 5 = 3; count 13 = 9; about 1 0 = 24; about 1 3 = 0; count 11 = 40; count 7 = 0
            """);
        runs.run("the major one makes YOUNG ones fewer", Runs.KINDS, """
            policy ages 16 24 1 4 = 56; row false 8 0 = 0; make 1 1 = 1; make 1 2 = 2; make 1 3 = 3; make 1 4 = 4
            root 2 -1 = 2; make 2 5 = 5; count 5 = 2; count 13 = 21; about 4 0 = 17; about 5 0 = 40; count 7 = 4
            """);
        runs.run("those alone whose AGE would be AGE of POLICY", Runs.KINDS, """
            policy ages 16 16 2 4 = 48; row false 15 0 = 0; make 1 1 = 1; make 1 2 = 2; make 1 3 = 3; root 3 -1 = 3
            make 1 3 = 4; make 2 5 = 5       # OLD is full, but none would come to it
            count 5 = 1; about 1 0 = 32; about 1 3 = 1; about 4 0 = 40; about 5 0 = 44; about 5 3 = 0
            make 0 6 = 6; count 11 = 48
            make 2 7 = -1                    # 12 words would: no minor one, whatever is major
            count 5 = 4; about 1 3 = 1; about 5 3 = 0; about 1 0 = 32
            """);
    }

    private static void cards(Runs runs) {
        runs.run("each CARD words of OLD", Runs.KINDS, """
            policy ages 40 60 7 4 = 140; row true 24 0 = 0; make 2 1 = 1; count 10 = 0
            link 0 0 1 = -1; count 10 = 1; link 0 2 1 = -1; count 10 = 1     # at 1 and 3
            link 0 3 1 = -1; count 10 = 2; link 0 6 1 = -1; count 10 = 2     # at 4 and 7
            link 0 7 1 = -1; count 10 = 3; link 0 23 1 = -1; count 10 = 4    # at 8 and 24
            clean = 0; count 10 = 4; link 0 0 -1 = 1; link 0 3 -1 = 1; link 0 7 -1 = 1; count 10 = 4
            clean = 0; count 10 = 3          # 2 is at 3, 6 at 7, 23 at 24
            """);
        runs.run("CARDS of 64 words", Runs.KINDS, """
            policy ages 40 200 7 64 = 280; row true 60 0 = 0; row true 60 1 = 1; make 2 2 = 2
            link 1 1 2 = -1; count 10 = 1; link 0 0 2 = -1; count 10 = 1     # at 63 and 1
            link 1 2 2 = -1; count 10 = 2; link 1 59 2 = -1; count 10 = 2    # at 64 and 121
            """);
        runs.run("the last CARD ends with OLD: words of YOUNG are in none", Runs.KINDS, """
            policy ages 16 18 7 4 = 50; row true 17 0 = 0; make 0 1 = 1; make 2 2 = 2; make 2 3 = 3; about 1 0 = 18
            link 1 0 2 = -1; link 0 16 3 = -1; count 10 = 1; root 1 -1 = 1; root 2 -1 = 2; root 3 -1 = 3
            row false 7 4 = 4; row false 3 5 = 5; count 5 = 1; count 7 = 4; count 2 = 4; about 3 0 = 42; about 5 0 = 43
            """);
        runs.run("OLD is full, and a YOUNG one stands right behind it", Runs.KINDS, """
            policy ages 16 18 7 4 = 50; row true 17 0 = 0; make 2 1 = 1; about 1 0 = 18; clean = 0; count 10 = 0; clean = 0
            about 1 0 = 18; count 10 = 0; link 0 16 1 = -1; count 10 = 1; clean = 0; count 10 = 1
            """);
        runs.run("an int behind a row of REFERENCES is none", Runs.KINDS, """
            policy ages 16 40 7 4 = 72; row true 8 0 = 0; row false 8 1 = 1; row false 6 2 = 2; row false 6 3 = 3; put 1 0 2 = 0
            link 0 7 1 = -1; count 10 = 0; clean = 0; count 10 = 0; link 0 7 3 = 1; link 0 7 1 = 3; count 10 = 1
            root 2 -1 = 2; row false 6 4 = 4; count 7 = 7; count 2 = 4; count 10 = 0
            """);
        runs.run("the last CARD has fewer words", Runs.KINDS, """
            policy ages 16 16 7 5 = 48; row true 15 0 = 0; make 2 1 = 1
            link 0 14 1 = -1; count 10 = 1; link 0 13 1 = -1; count 10 = 2; link 0 9 1 = -1; count 10 = 2    # 15, 14, 10
            link 0 8 1 = -1; count 10 = 3; link 0 3 1 = -1; count 10 = 4; root 1 -1 = 1; clean = 0; count 10 = 4
            """);
    }

    private static void dirtySince(Runs runs) {
        runs.run("dirty: a REFERENCE to a YOUNG one alone", Runs.KINDS, """
            policy ages 16 40 7 4 = 72; row true 8 0 = 0; row true 8 1 = 1; make 0 2 = 2; make 0 3 = 3
            link 0 0 1 = -1; link 1 0 0 = -1; link 0 1 0 = -1; link 0 2 -1 = -1; count 10 = 0       # OLD to OLD
            link 2 0 3 = -1; link 3 0 2 = -1; link 2 1 0 = -1; count 10 = 0                         # of YOUNG ones
            link 0 0 2 = 1; count 10 = 1; link 0 0 2 = 2; count 10 = 1
            """);
        runs.run("dirty since, although it refers to it no more", Runs.KINDS, """
            policy ages 16 40 7 4 = 72; row true 8 0 = 0; make 0 1 = 1; link 0 0 1 = -1; link 0 0 -1 = 1; count 10 = 1
            link 0 4 1 = -1; link 0 4 0 = 1; count 10 = 2
            clean = 0; count 10 = 0          # after a cleaning just those with such a REFERENCE
            """);
        runs.run("after a major one alone, where OLD was slid", Runs.KINDS, """
            policy ages 16 40 7 4 = 72; row true 8 0 = 0; row true 8 1 = 1; row true 20 2 = 2; make 0 3 = 3; root 0 -1 = 0
            link 1 2 3 = -1; link 1 3 3 = -1; link 2 0 3 = -1; count 10 = 2      # at 12, 13 and 19
            row false 9 4 = 4; count 5 = 1; about 1 0 = 0; about 2 0 = 9; about 4 0 = 30
            count 10 = 3                     # at 3, 4 and 10
            """);
        runs.run("after a minor one: those that came to OLD, too", Runs.KINDS, """
            policy ages 16 40 2 4 = 72; make 0 0 = 0; clean = 0; make 0 1 = 1; link 0 1 1 = -1; count 10 = 0; root 1 -1 = 1
            clean = 0; about 0 0 = 0; about 1 3 = 1; count 10 = 1; clean = 0; about 1 0 = 3; count 10 = 0
            """);
    }

    private static void minorOrder(Runs runs) {
        runs.run("ROOTS, WISHES, dirty CARDS: in this order", Runs.KINDS, """
            policy ages 30 40 7 4 = 100; row true 16 0 = 0; make 0 1 = 1; wish 1 = 1; root 1 -1 = 1; clean = 0
            count 9 = 1; about 1 0 = 70
            make 1 2 = 2; make 2 3 = 3; link 0 5 2 = -1; root 2 -1 = 2
            clean = 0; about 3 0 = 40; about 1 0 = 41; about 2 0 = 44; count 11 = 48
            """);
        runs.run("ROOTS rising; CARDS rising, words rising; each only once", Runs.KINDS, """
            policy ages 40 60 7 4 = 140; row true 30 0 = 0; make 2 9 = 1; make 2 8 = 2; make 2 1 = 3; make 2 2 = 4; make 2 3 = 5
            link 0 20 3 = -1; link 0 1 4 = -1; link 0 2 5 = -1; link 0 25 4 = -1; link 0 3 1 = -1
            root 1 -1 = 3; root 2 -1 = 4; root 3 -1 = 5; clean = 0
            about 2 0 = 100; about 1 0 = 101; about 4 0 = 102; about 5 0 = 103; about 3 0 = 104; count 11 = 105
            """);
        runs.run("then those that came, over YOUNG ones alone", Runs.KINDS, """
            policy ages 40 60 7 4 = 140; row true 30 0 = 0; make 0 1 = 1; make 0 2 = 2; make 2 3 = 3; make 2 4 = 4; make 2 5 = 5
            link 1 0 0 = -1; link 1 1 3 = -1; link 2 0 4 = -1; link 2 1 1 = -1; link 0 29 5 = -1
            root 1 -1 = 1; root 3 -1 = 3; root 4 -1 = 4; root 5 -1 = 5
            clean = 0                        # 2 by its ROOT, 5 by its CARD, 4 and 1 of 2, 3 of 1
            about 2 0 = 100; about 5 0 = 103; about 4 0 = 104; about 1 0 = 105; about 3 0 = 108; about 0 0 = 0
            """);
    }

    private static void minorKeepsOld(Runs runs) {
        runs.run("KEPT is all of OLD; WEAK of it stay, its wish waits", Runs.KINDS, """
            policy ages 16 40 3 4 = 72; row true 8 0 = 0; row false 7 1 = 1; row false 7 2 = 2; wish 0 = 1; weak 0 0 = -1
            weak 1 1 = -1; root 0 -1 = 0; root 1 -1 = 1; make 2 3 = 3; count 5 = 1; count 7 = 8; count 9 = 0
            weak 1 -1 = -1; strong 0 4 = 0; about 0 7 = 1; about 0 0 = 0
            """);
        runs.run("what dirty CARDS of one that is not REACHED lead to", Runs.KINDS, """
            policy ages 16 40 3 4 = 72; row true 8 0 = 0; row false 6 1 = 1; row false 7 2 = 2; link 0 7 1 = -1; weak 0 0 = -1
            weak 1 1 = -1; root 0 -1 = 0; root 1 -1 = 1; root 2 -1 = 2; make 0 3 = 3; count 5 = 1; count 7 = 8; count 10 = 1
            about 3 0 = 63; strong 0 0 = 0; get 0 7 = 1; about 1 0 = 56; about 1 3 = 1
            """);
    }

    private static void minorThenMajor(Runs runs) {
        runs.run("minor; still none: major, then minor", Runs.KINDS, """
            policy ages 16 20 7 4 = 52; row true 8 0 = 0; row false 7 1 = 1; row false 6 2 = 2; link 0 0 1 = -1
            root 0 -1 = 0; root 1 -1 = 1; count 11 = 35
            make 0 3 = 3                     # the minor one keeps 1 by its CARD; the major one does not
            count 5 = 3; count 7 = 17; about 2 0 = 20; about 2 3 = 2; about 3 0 = 27; count 13 = 0; count 10 = 0
            """);
        runs.run("still none: FULL", Runs.KINDS, """
            policy ages 16 20 7 4 = 52; row false 7 1 = 0; row false 7 2 = 1; make 2 3 = -1; count 5 = 3; about 0 3 = 2
            about 0 0 = 20; count 4 = 2; root 3 -1 = -1; root 1 -1 = 0; make 2 3 = 2; count 5 = 4; about 1 3 = 3
            """);
    }

    private static void majorLeavesYoung(Runs runs) {
        runs.run("of YOUNG those not KEPT are gone, the others stay; free words between up to the next minor one", Runs.KINDS, """
            policy ages 16 20 7 4 = 52; make 1 0 = 0; make 1 1 = 1; make 1 2 = 2; weak 0 0 = -1; weak 2 2 = -1
            root 0 -1 = 0; root 2 -1 = 2; row false 19 4 = 3; row false 8 5 = -1; count 5 = 1; count 7 = 8; count 2 = 2
            about 1 0 = 24; count 11 = 32; strong 0 9 = -1; strong 2 9 = -1
            make 1 6 = 4; about 4 0 = 32; count 5 = 1        # behind TOP, which stayed
            make 2 7 = 5; count 5 = 2; about 1 0 = 36; about 4 0 = 40; about 5 0 = 44
            """);
        runs.run("nothing of YOUNG is KEPT: its words are no room up to the next minor one", Runs.KINDS, """
            policy ages 16 20 7 4 = 52; row false 7 0 = 0; row false 6 1 = 1; root 0 -1 = 0; root 1 -1 = 1
            row false 20 2 = -1; count 5 = 1; count 7 = 15; count 2 = 0; count 11 = 35
            make 0 3 = 2; count 5 = 2; about 2 0 = 36; count 11 = 39
            """);
        runs.run("wishes of YOUNG ones in a major one", Runs.KINDS, """
            policy ages 16 20 7 4 = 52; make 1 0 = 0; wish 0 = 1; root 0 -1 = 0; row false 19 4 = 1; row false 8 5 = -1
            count 9 = 1; about 0 0 = 20; count 7 = 0
            """);
    }

    private static void oldIsSlid(Runs runs) {
        runs.run("OLD slid, held ones stay", Runs.KINDS, """
            policy ages 16 40 7 4 = 72; row false 8 0 = 0; row false 9 1 = 1; row false 8 2 = 2; row false 8 3 = 3; hold 2 true = 1
            put 3 7 5 = 0; root 0 -1 = 0; clean = 9; about 1 0 = 0; about 2 0 = 19; about 3 0 = 28; count 13 = 37
            root 1 -1 = 1; clean = 10; about 2 0 = 19; root 2 -1 = 2; hold 2 false = 0; clean = 9; about 3 0 = 0; get 3 7 = 5
            count 13 = 9
            """);
    }

    private static void greatest(Runs runs) {
        StringBuilder rows = new StringBuilder("policy ages 1500 1500 7 4 = 4500\n");
        for (int n = 0; n < 24; n++) {
            rows.append("row true 60 ").append(n % 2).append(" = ").append(n).append(n == 0 ? "\n" : "; link " + n + " 0 "
                + (n - 1) + " = -1\n");
        }
        runs.run("PLACES up to the last word of YOUNG", rows.toString(), """
            row true 35 0 = 24; about 24 0 = 2964; link 24 34 23 = -1; link 0 59 24 = -1; count 11 = 3000; count 5 = 0
            root 1 -1 = 23; clean = 0; about 24 0 = 3000; about 0 0 = 4439; get 0 59 = 24; get 24 34 = 23; count 11 = 4500
            link 0 59 0 = 24; get 0 59 = 0; clean = 0; about 0 0 = 2939; get 0 59 = 0; count 11 = 3000
            """);
        StringBuilder second = new StringBuilder("policy ages 1500 1500 7 4 = 4500; clean = 0; count 11 = 3000\n");
        for (int n = 0; n < 24; n++) {
            second.append("row false 60 ").append(n % 16).append(" = ").append(n).append('\n');
        }
        runs.run("made up to the last word of all", second.toString(), """
            row false 35 0 = 24; about 24 0 = 4464; put 24 34 7 = 0; get 24 34 = 7; count 11 = 4500; count 5 = 2
            row false 0 1 = 25; count 5 = 3; get 24 34 = 7; about 24 0 = 1500
            """);
        StringBuilder old = new StringBuilder("policy ages 16 1500 7 4 = 1532\n");
        for (int n = 0; n < 24; n++) {
            old.append("row false 60 0 = ").append(n).append("; hold ").append(n).append(" true = 1\n");
        }
        runs.run("the last word of the last CARD", old.toString(), """
            row true 35 0 = 24; about 24 0 = 1464; row false 3 1 = 25; about 25 0 = 1500; count 13 = 1500
            link 24 34 25 = -1; count 10 = 1; root 1 -1 = 25; row false 7 2 = 26; root 2 -1 = 26; count 5 = 0
            row false 4 3 = 27; count 5 = 1; about 25 0 = 1516; about 27 0 = 1520; get 24 34 = 25; count 7 = 8
            count 10 = 1; clean = 0; count 10 = 1; about 25 3 = 2
            """);
    }

    private static void minorAndMajor(Runs runs) {
        runs.run("minor, then major", Runs.KINDS, """
            policy ages 16 20 2 4 = 52
            count 11 = 20; count 13 = 0
            make 3 0 = 0; about 0 0 = 0; about 0 3 = 0; count 13 = 9; count 11 = 20
            make 0 1 = 1; about 1 0 = 20; make 0 2 = 2; count 11 = 26
            link 0 2 2 = -1; count 10 = 1    # word 2 of 0 is at 3, card 0
            link 0 3 1 = -1; count 10 = 2    # at 4, card 1
            link 0 3 -1 = 1; count 10 = 2; link 0 6 0 = -1; count 10 = 2
            root 1 -1 = 1; root 2 -1 = 2
            make 0 3 = 3; make 0 3 = 4; make 0 3 = 5; count 11 = 35; count 5 = 0
            make 0 4 = 6                     # 5 by root 3, 2 by card 0
            count 5 = 1; about 5 0 = 36; about 2 0 = 39; about 6 0 = 42; count 11 = 45
            about 5 3 = 1; about 2 3 = 1; about 6 3 = 0; count 10 = 1; count 6 = 6; count 7 = 9; count 2 = 4
            clean = 0; count 5 = 3           # 5 and 2 are old now, 6 comes to the first half
            about 5 0 = 9; about 5 3 = 2; about 6 0 = 20; about 6 3 = 1; about 2 0 = 12; count 13 = 15; count 11 = 23
            count 10 = 0; count 6 = 15; get 0 2 = 2; get 0 6 = 0
            hold 6 true = !UnsupportedOperationException; hold 5 true = 1
            root 0 -1 = 0; root 3 -1 = 5
            clean = 12                       # 0 and 2 are gone; 5 is held
            about 5 0 = 9; count 13 = 15; about 6 0 = 12; about 6 3 = 2; count 11 = 36; count 5 = 5
            """);
    }

    private static void promoted(Runs runs) {
        runs.run("cards rising, words rising, then those that came", Runs.KINDS, """
            policy ages 30 60 1 8 = 120
            make 1 0 = 0; make 0 1 = 1; clean = 0; about 0 0 = 0; about 1 0 = 4; count 13 = 7; count 5 = 2
            about 0 3 = 1; count 11 = 90
            make 0 2 = 2; make 0 3 = 3; make 0 4 = 4; make 2 5 = 5; about 2 0 = 90
            link 1 1 2 = -1; count 10 = 1    # at 6
            link 1 0 3 = -1; link 2 0 5 = -1; link 4 0 2 = -1; link 5 0 2 = !IndexOutOfBoundsException
            link 0 0 3 = -1
            root 2 -1 = 2; root 3 -1 = 3; root 5 -1 = 5
            clean = 0                        # 4 by its root, 3 by word 0 of 0, 2 by word 1 of 1, 5 by 2
            about 4 0 = 7; about 3 0 = 10; about 2 0 = 13; about 5 0 = 16; count 13 = 17; count 10 = 0; count 11 = 60
            """);
        runs.run("young ones stay reached by what grows old", Runs.KINDS, """
            policy ages 20 40 2 4 = 80
            make 0 0 = 0; clean = 0; make 0 1 = 1; link 0 0 1 = -1; root 1 -1 = 1; count 10 = 0
            clean = 0; about 0 0 = 0; about 0 3 = 2; about 1 3 = 1; about 1 0 = 40; count 10 = 1
            root 0 -1 = 0                    # 0 is old and not reached, but a minor cleaning keeps it
            row false 9 2 = 2; row false 9 3 = 3; count 5 = 5
            about 2 0 = 60; about 3 0 = 70; count 2 = 4; count 13 = 6; count 10 = 0
            """);
    }

    private static void oldTooFull(Runs runs) {
        runs.run("old has fewer words than would come", Runs.KINDS, """
            policy ages 16 16 1 4 = 48
            make 3 0 = 0; make 1 1 = 1; make 1 2 = 2; make 1 3 = 3; make 1 4 = 4; count 11 = 32; count 5 = 0
            make 2 5 = -1; count 5 = 3; count 11 = 32; about 4 0 = 28
            root 2 -1 = 2; root 3 -1 = 3; root 4 -1 = 4
            make 2 5 = 5; count 5 = 5; about 1 0 = 9; about 5 0 = 32; count 13 = 13; count 7 = 12
            root 1 -1 = 1
            row false 7 6 = 6; row false 5 7 = 7; make 2 8 = 8; count 11 = 48; count 5 = 5
            make 2 9 = -1                    # 16 words in young, 3 free in old; 4 of 1 go
            count 5 = 8; count 7 = 16; count 13 = 9
            clean = 0; count 5 = 10
            """);
    }

    private static void justEnough(Runs runs) {
        runs.run("old has as many words as would come", Runs.KINDS, """
            policy ages 16 16 1 4 = 48
            make 1 0 = 0; make 1 1 = 1; make 1 2 = 2; make 1 3 = 3; count 11 = 32
            make 2 4 = 4; count 5 = 1; count 13 = 16; about 3 0 = 12; about 4 0 = 32
            clean = 0; count 5 = 3           # a major one; none behind it, as there is no word for 4, but once more
            about 4 0 = 32
            """);
        runs.run("one word too many", Runs.KINDS, """
            policy ages 17 16 1 4 = 50
            make 2 0 = 0; make 1 1 = 1; make 1 2 = 2; make 1 3 = 3; make 1 4 = 4; count 11 = 33
            make 2 5 = -1; count 5 = 3; count 13 = 0
            root 0 -1 = 0; make 2 5 = 5; count 5 = 5; count 13 = 16; about 5 0 = 33
            """);
        runs.run("up to the last word of old", Runs.KINDS, """
            policy ages 16 18 1 4 = 50
            row false 8 0 = 0; row false 8 1 = 1; about 1 0 = 9; count 13 = 18; count 5 = 0
            row false 8 2 = -1; count 5 = 1; root 0 -1 = 0
            row false 8 2 = 2; about 1 0 = 0; about 2 0 = 9; count 13 = 18; count 5 = 2; count 12 = 0
            """);
    }

    private static void largeOnes(Runs runs) {
        runs.run("above half of young", Runs.KINDS, """
            policy ages 17 20 3 4 = 54
            row false 7 0 = 0; about 0 0 = 20    # 8 words
            row false 8 1 = 1; about 1 0 = 0; count 13 = 9
            row false 9 2 = 2; about 2 0 = 9; about 2 3 = 0; count 13 = 19
            row false 8 3 = -1; count 5 = 1; count 6 = 0
            root 1 -1 = 1; row false 8 3 = 3; about 2 0 = 0; about 3 0 = 10; count 5 = 2; count 6 = 10; about 0 0 = 20
            row false 30 4 = -1; count 5 = 3
            """);
    }

    private static void majorAlone(Runs runs) {
        runs.run("a major cleaning leaves young ones where they are", Runs.KINDS, """
            policy ages 16 20 3 4 = 52
            make 0 0 = 0; make 0 1 = 1; make 0 2 = 2; row true 8 3 = 3; row true 8 4 = 4; count 13 = 18
            link 4 0 2 = -1; count 10 = 1; root 2 -1 = 2
            root 0 -1 = 0; root 3 -1 = 3; put 1 0 0 = !ClassCastException
            row true 8 5 = 5                 # old is full: 0 and 3 are gone
            count 5 = 1; about 4 0 = 0; about 5 0 = 9; about 1 0 = 23; about 2 0 = 26; count 11 = 29; count 7 = 12
            count 10 = 1; about 1 3 = 0; get 4 0 = 2
            make 1 6 = 6; about 6 0 = 29
            make 1 7 = 7; count 5 = 2        # minor: 1 by root 1, 6 by root 6, 2 by its card
            about 1 0 = 36; about 6 0 = 39; about 2 0 = 43; about 7 0 = 46; about 2 3 = 1
            """);
    }

    private static void wishes(Runs runs) {
        runs.run("wishes of young ones in a minor cleaning", Runs.KINDS, """
            policy ages 16 20 1 4 = 52
            make 0 0 = 0; wish 0 = 1; clean = 0; about 0 0 = 0; root 0 -1 = 0
            make 0 1 = 1; make 0 2 = 2; make 0 3 = 3; make 1 4 = 4; make 2 5 = 5; make 2 6 = 6; count 11 = 51
            link 2 0 3 = -1; wish 3 = 1; wish 2 = 1; weak 0 2 = -1; weak 1 3 = -1; weak 2 1 = -1; weak 3 4 = -1
            root 1 -1 = 1; root 2 -1 = 2; root 3 -1 = 3
            make 0 7 = 7                     # 4, 5, 6 by roots, then 2 with its wish, and 3 by it
            count 5 = 3; count 9 = 1; about 4 0 = 3; about 5 0 = 7; about 6 0 = 8; about 2 0 = 9; about 3 0 = 12
            about 3 7 = 1; about 2 7 = 0; strong 0 9 = -1; strong 2 9 = -1; strong 3 9 = 4; strong 1 9 = 3
            count 13 = 15; about 7 0 = 20; count 7 = 3
            granted 9 = 2; granted 9 = -1
            clean = 0; count 9 = 1; about 0 0 = 0; granted 8 = 0    # a major one sees the wish of the old one
            """);
    }
}
