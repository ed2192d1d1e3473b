/** Promise 8: put. */
public final class PutTest {
    public static void main(String[] args) {
        Runs runs = new Runs();
        runs.run("word i is v; answers what it was", Runs.KINDS, """
            policy sweep 40 first = 40; make 1 0 = 0; make 1 1 = 1
            put 0 1 -7 = 0; put 0 1 -2147483648 = -7; put 0 1 2147483647 = -2147483648; get 0 1 = 2147483647
            put 0 2 -1 = 0; put 0 2 0 = -1; put 0 2 5 = 0; put 0 2 5 = 5; get 0 1 = 2147483647; get 1 1 = 0; get 1 2 = 0
            """);
        runs.run("there is none", Runs.KINDS, """
            policy sweep 100 first = 100; make 1 0 = 0; make 2 1 = 1; row false 60 2 = 2; row false 0 3 = 3
            put 0 2 1 = 0; put 0 3 1 = !IndexOutOfBoundsException; put 0 -1 1 = !IndexOutOfBoundsException
            put 0 2147483647 1 = !IndexOutOfBoundsException; put 0 -2147483648 1 = !IndexOutOfBoundsException
            put 0 64 1 = !IndexOutOfBoundsException; put 0 65 1 = !IndexOutOfBoundsException
            put 1 0 1 = !IndexOutOfBoundsException; put 1 -1 1 = !IndexOutOfBoundsException
            put 2 59 1 = 0; put 2 60 1 = !IndexOutOfBoundsException; put 3 0 1 = !IndexOutOfBoundsException
            """);
        runs.run("a REFERENCE", Runs.KINDS, """
            policy sweep 60 first = 60; make 1 0 = 0; make 3 1 = 1; row true 2 2 = 2
            put 0 0 0 = !ClassCastException; put 1 0 0 = !ClassCastException; put 1 7 0 = !ClassCastException
            put 2 0 0 = !ClassCastException; put 2 1 0 = !ClassCastException
            get 0 0 = -1; get 1 0 = -1; get 1 7 = -1; get 2 1 = -1
            """);
        runs.run("NoSuchElementException comes first", Runs.KINDS, """
            policy sweep 40 first = 40; put 0 0 0 = !NoSuchElementException
            make 1 0 = 0; make 1 1 = 1; root 1 -1 = 1
            put 1 9 0 = !NoSuchElementException; put 1 0 0 = !NoSuchElementException; put 1 1 0 = !NoSuchElementException
            put 2 1 0 = !NoSuchElementException; put -1 1 0 = !NoSuchElementException; put -2 1 0 = !NoSuchElementException
            put 2147483647 1 0 = !NoSuchElementException; put -2147483648 1 0 = !NoSuchElementException
            put 512 1 0 = !NoSuchElementException; put 511 1 0 = !NoSuchElementException
            """);
        runs.run("an int is no REFERENCE, whatever it is", Runs.KINDS, """
            policy sweep 40 first = 40; make 1 0 = 0; make 2 1 = 1; put 0 1 1 = 0; put 0 2 1 = 0; root 1 -1 = 1
            about 1 0 = !NoSuchElementException; clean = 1; get 0 1 = 1; get 0 2 = 1
            """);
        Refused.withoutHeap(runs, "put 0 0 0 = !IllegalStateException", "put -1 99 0 = !IllegalStateException");
        Refused.everywhere(runs, "put 4 1 0 = !NoSuchElementException", "put 10 1 0 = !NoSuchElementException",
            "put -1 1 0 = !NoSuchElementException", "put 1 3 0 = !IndexOutOfBoundsException",
            "put 1 -1 0 = !IndexOutOfBoundsException", "put 2 0 0 = !IndexOutOfBoundsException",
            "put 3 20 0 = !IndexOutOfBoundsException", "put 1 0 0 = !ClassCastException",
            "put 0 1 5 = !ClassCastException", "put 6 7 5 = !ClassCastException",
            "put 3 7 5 = !ClassCastException");
        runs.finish();
    }
}
