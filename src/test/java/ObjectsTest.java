/** Promises 6 (make), 7 (row), 8 (put), 9 (link), 10 (get), 19 (about), 20 (block), in the plainest heaps. */
public final class ObjectsTest {
    public static void main(String[] args) {
        Runs runs = new Runs();
        making(runs);
        rows(runs);
        words(runs);
        reached(runs);
        blocks(runs);
        runs.finish();
    }

    private static void making(Runs runs) {
        runs.run("make", Runs.KINDS, """
            make 0 0 = !IllegalStateException; make 4 0 = !IllegalArgumentException
            policy slide 16 = 16
            make -1 0 = !IllegalArgumentException; make 4 0 = !IllegalArgumentException
            make 0 -1 = !IllegalArgumentException; make 0 16 = !IllegalArgumentException
            count 4 = 0
            make 1 15 = 0; about 0 0 = 0; about 0 1 = 4; about 0 2 = 1; about 0 3 = 0; about 0 4 = 0
            about 0 5 = 0; about 0 6 = 0; about 0 7 = 0
            about 0 8 = !IllegalArgumentException; about 0 -1 = !IllegalArgumentException
            make 2 0 = 1; about 1 0 = 4; about 1 1 = 1; about 1 2 = 2
            make 0 15 = 2                    # root 15 had 0
            about 0 0 = !NoSuchElementException; root 15 2 = 2
            count 2 = 3; count 3 = 8; count 4 = 3
            """);
        runs.run("first room, then the root changes", Runs.KINDS, """
            policy slide 16 = 16
            row false 15 0 = 0; row false 15 0 = -1; count 4 = 1; count 5 = 1; root 0 -1 = 0
            row false 15 0 = 1; count 5 = 2; about 1 0 = 0; count 7 = 16
            row false 16 1 = -1; root 1 -1 = -1; count 4 = 2; root 0 1 = 1
            """);
    }

    private static void rows(Runs runs) {
        runs.run("row", """
            row true 3 0 = !IllegalStateException
            row true 61 0 = !IllegalArgumentException; row true -1 0 = !IllegalArgumentException
            row false 1 16 = !IllegalArgumentException
            policy slide 200 = 200
            row true 60 0 = 0; about 0 1 = 61; about 0 2 = 16; get 0 0 = -1; get 0 59 = -1
            get 0 60 = !IndexOutOfBoundsException; link 0 59 0 = -1; get 0 59 = 0
            put 0 59 1 = !ClassCastException
            row false 60 1 = 1; about 1 1 = 61; about 1 2 = 17; get 1 59 = 0; put 1 59 9 = 0; get 1 59 = 9
            link 1 59 0 = !ClassCastException
            row true 0 2 = 2; about 2 1 = 1; get 2 0 = !IndexOutOfBoundsException
            row false 61 2 = !IllegalArgumentException
            """);
    }

    private static void words(Runs runs) {
        runs.run("put, link, get", Runs.KINDS, """
            put 0 0 0 = !IllegalStateException; link 0 0 0 = !IllegalStateException; get 0 0 = !IllegalStateException
            policy sweep 40 first = 40
            make 1 0 = 0; make 0 1 = 1
            put 0 1 -7 = 0; put 0 1 -2147483648 = -7; put 0 2 2147483647 = 0; get 0 1 = -2147483648
            get 0 2 = 2147483647; get 0 0 = -1
            put 0 0 1 = !ClassCastException; put 0 3 1 = !IndexOutOfBoundsException
            put 0 -1 1 = !IndexOutOfBoundsException; put 2 9 1 = !NoSuchElementException
            put -1 0 1 = !NoSuchElementException; put -2147483648 0 1 = !NoSuchElementException
            link 0 0 1 = -1; link 0 0 0 = 1; link 0 0 -1 = 0; link 0 0 -1 = -1; get 0 0 = -1
            link 0 1 1 = !ClassCastException; link 0 3 1 = !IndexOutOfBoundsException
            link 0 -1 1 = !IndexOutOfBoundsException
            link 0 9 5 = !NoSuchElementException; link 0 1 5 = !NoSuchElementException
            link 5 0 0 = !NoSuchElementException; link 0 0 -2 = !NoSuchElementException
            get 0 3 = !IndexOutOfBoundsException; get 0 -1 = !IndexOutOfBoundsException
            get 7 0 = !NoSuchElementException; get 2147483647 0 = !NoSuchElementException
            """);
    }

    private static void reached(Runs runs) {
        runs.run("calls name what is reached", Runs.KINDS, """
            policy sweep 60 first = 60
            make 0 0 = 0; make 0 1 = 1; make 0 2 = 2; make 0 3 = 3
            link 0 1 1 = -1; link 1 0 2 = -1; link 2 0 0 = -1
            root 1 -1 = 1; root 2 -1 = 2
            about 2 1 = 3                    # by 0 and 1
            link 0 1 -1 = 1
            about 1 1 = !NoSuchElementException; about 2 1 = !NoSuchElementException
            link 0 0 2 = !NoSuchElementException; root 4 2 = !NoSuchElementException
            weak 0 2 = !NoSuchElementException; hold 2 true = !NoSuchElementException; wish 1 = !NoSuchElementException
            count 2 = 4                      # there they are, up to a cleaning
            hold 3 true = 1; root 3 -1 = 3; about 3 6 = 1
            hold 3 false = 0; about 3 6 = !NoSuchElementException
            clean = 9; count 2 = 1
            """);
    }

    private static void blocks(Runs runs) {
        runs.run("block", Runs.KINDS, """
            block 0 2 = !IllegalArgumentException; block 0 0 = !IllegalStateException
            policy sweep 16 first = 16
            block 0 0 = 0; block 0 1 = 16; block 1 0 = !IndexOutOfBoundsException
            block -1 0 = !IndexOutOfBoundsException; block 0 -1 = !IllegalArgumentException
            make 0 0 = 0; make 2 1 = 1; make 0 2 = 2; make 2 3 = 3; block 0 0 = 8; block 0 1 = 8
            root 0 -1 = 0; root 1 -1 = 1; root 3 -1 = 3
            block 0 0 = 8; clean = 5
            block 0 0 = 0; block 0 1 = 4; block 1 0 = 7; block 1 1 = 9; block 2 1 = !IndexOutOfBoundsException
            row false 3 0 = 4; row false 8 1 = 5; block 0 0 = !IndexOutOfBoundsException; count 3 = 16
            policy counts 16 first = 16; block 0 1 = 16; make 2 0 = 0; make 2 1 = 1; root 0 -1 = 0
            block 0 0 = 0; block 0 1 = 1; block 1 0 = 2; block 1 1 = 14
            policy steps 16 first 1 news = 16; block 0 1 = 16
            policy slide 16 = 16; block 0 0 = !UnsupportedOperationException
            block 9 9 = !IllegalArgumentException; block 9 0 = !UnsupportedOperationException
            policy halves 16 = 32; block 0 0 = !UnsupportedOperationException
            policy ages 16 16 1 4 = 48; block 0 0 = !UnsupportedOperationException
            policy regions 64 16 5 = 64; block 0 0 = !UnsupportedOperationException
            """);
    }
}
