/** Promise 10: get. */
public final class GetTest {
    public static void main(String[] args) {
        Runs runs = new Runs();
        runs.run("an int, or the NUMBER, -1 for NOTHING", Runs.KINDS, """
            policy sweep 40 first = 40; make 1 0 = 0; get 0 0 = -1; get 0 1 = 0; get 0 2 = 0; make 2 1 = 1
            link 0 0 1 = -1; put 0 1 -1 = 0; put 0 2 12 = 0; get 0 0 = 1; get 0 1 = -1; get 0 2 = 12
            link 0 0 0 = 1; get 0 0 = 0; link 0 0 -1 = 0; get 0 0 = -1
            """);
        runs.run("there is none", Runs.KINDS, """
            policy sweep 100 first = 100; make 1 0 = 0; make 2 1 = 1; row true 60 2 = 2; row false 0 3 = 3
            get 0 2 = 0; get 0 3 = !IndexOutOfBoundsException; get 0 -1 = !IndexOutOfBoundsException
            get 0 2147483647 = !IndexOutOfBoundsException; get 0 -2147483648 = !IndexOutOfBoundsException
            get 1 0 = !IndexOutOfBoundsException; get 2 59 = -1; get 2 60 = !IndexOutOfBoundsException
            get 3 0 = !IndexOutOfBoundsException
            """);
        runs.run("NoSuchElementException comes first", Runs.KINDS, """
            policy sweep 40 first = 40; get 0 0 = !NoSuchElementException; make 1 0 = 0; make 1 1 = 1; root 1 -1 = 1
            get 1 0 = !NoSuchElementException; get 1 9 = !NoSuchElementException; get 2 9 = !NoSuchElementException
            get -1 0 = !NoSuchElementException; get 2147483647 -1 = !NoSuchElementException
            get -2147483648 0 = !NoSuchElementException; get 512 0 = !NoSuchElementException
            """);
        Refused.withoutHeap(runs, "get 0 0 = !IllegalStateException", "get -1 -1 = !IllegalStateException");
        Refused.everywhere(runs, "get 4 0 = !NoSuchElementException", "get 10 0 = !NoSuchElementException",
            "get -1 9 = !NoSuchElementException", "get 0 2 = !IndexOutOfBoundsException",
            "get 0 -1 = !IndexOutOfBoundsException", "get 2 0 = !IndexOutOfBoundsException");
        runs.finish();
    }
}
