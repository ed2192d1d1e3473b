/** Promise 9: link. */
public final class LinkTest {
    public static void main(String[] args) {
        Runs runs = new Runs();
        runs.run("word i is that OBJECT; answers what it was, -1 NOTHING", Runs.KINDS, """
            policy sweep 40 first = 40; make 0 0 = 0; make 0 1 = 1
            link 0 0 1 = -1; link 0 0 1 = 1; link 0 0 0 = 1; link 0 0 -1 = 0; link 0 0 -1 = -1; get 0 0 = -1
            link 0 1 1 = -1; get 0 0 = -1; get 0 1 = 1; get 1 0 = -1; get 1 1 = -1; link 1 1 0 = -1; get 1 1 = 0
            """);
        runs.run("there is none", Runs.KINDS, """
            policy sweep 100 first = 100; make 0 0 = 0; make 2 1 = 1; row true 60 2 = 2; row true 0 3 = 3
            link 0 1 0 = -1; link 0 2 0 = !IndexOutOfBoundsException; link 0 -1 0 = !IndexOutOfBoundsException
            link 0 2 -1 = !IndexOutOfBoundsException; link 0 2147483647 0 = !IndexOutOfBoundsException
            link 0 -2147483648 0 = !IndexOutOfBoundsException; link 0 64 0 = !IndexOutOfBoundsException
            link 1 0 0 = !IndexOutOfBoundsException; link 2 59 0 = -1; link 2 60 0 = !IndexOutOfBoundsException
            link 3 0 -1 = !IndexOutOfBoundsException
            """);
        runs.run("no REFERENCE", Runs.KINDS, """
            policy sweep 60 first = 60; make 1 0 = 0; row false 3 1 = 1; put 0 1 9 = 0
            link 0 1 0 = !ClassCastException; link 0 2 -1 = !ClassCastException; link 1 0 1 = !ClassCastException
            link 1 2 1 = !ClassCastException; get 0 1 = 9; get 1 0 = 0
            """);
        runs.run("NoSuchElementException comes first, of either", Runs.KINDS, """
            policy sweep 40 first = 40; link 0 0 -1 = !NoSuchElementException
            make 1 0 = 0; make 1 1 = 1; root 1 -1 = 1
            link 1 0 0 = !NoSuchElementException; link 1 9 0 = !NoSuchElementException
            link 1 1 -1 = !NoSuchElementException; link -1 0 0 = !NoSuchElementException
            link 0 0 1 = !NoSuchElementException; link 0 9 1 = !NoSuchElementException
            link 0 1 1 = !NoSuchElementException; link 0 0 2 = !NoSuchElementException
            link 0 0 -2 = !NoSuchElementException; link 0 -1 -2 = !NoSuchElementException
            link 0 0 2147483647 = !NoSuchElementException; link 0 0 -2147483648 = !NoSuchElementException
            link 0 9 -1 = !IndexOutOfBoundsException; link 0 1 -1 = !ClassCastException; get 0 0 = -1
            """);
        Refused.withoutHeap(runs, "link 0 0 0 = !IllegalStateException", "link 99 99 -1 = !IllegalStateException");
        Refused.everywhere(runs, "link 4 0 0 = !NoSuchElementException", "link 10 0 0 = !NoSuchElementException",
            "link -1 0 0 = !NoSuchElementException", "link 0 0 4 = !NoSuchElementException",
            "link 0 0 10 = !NoSuchElementException", "link 0 0 -2 = !NoSuchElementException",
            "link 1 1 4 = !NoSuchElementException", "link 1 9 4 = !NoSuchElementException",
            "link 1 3 0 = !IndexOutOfBoundsException", "link 0 2 -1 = !IndexOutOfBoundsException",
            "link 0 -1 8 = !IndexOutOfBoundsException", "link 2 0 0 = !IndexOutOfBoundsException",
            "link 1 1 0 = !ClassCastException", "link 1 2 -1 = !ClassCastException", "link 1 2 8 = !ClassCastException",
            "link 3 19 4 = !NoSuchElementException", "link 3 19 10 = !NoSuchElementException",
            "link 3 20 9 = !IndexOutOfBoundsException", "link 3 -1 9 = !IndexOutOfBoundsException");
        runs.finish();
    }
}
