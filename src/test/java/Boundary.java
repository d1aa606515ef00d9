/** What the tests of boundary cases share: the edges of an argument, and what lies beyond them. */
final class Boundary {
    private Boundary() { }

    /** The first and the last number are taken; those beside them and the ends of int are refused. */
    static void edges(Run run, String call, int least, int greatest) {
        run.taken(filled(call, least)).taken(filled(call, greatest));
        refused(run, call, least, greatest, "BAD");
    }

    static void refused(Run run, String call, int least, int greatest, String answer) {
        for (String number : new String[] {"" + (least - 1L), "" + (greatest + 1L), "MIN", "MAX"}) {
            run.calls(call.replace("#", number) + " = " + answer);
        }
    }

    private static String filled(String call, int number) {
        return call.replace("#", "" + number);
    }

    /** The edges of an argument that is a user, with each number of users there can be. */
    static void users(int promise, String call) {
        Run run = Said.in(promise, "`user`: the user");
        for (int k = 1; k <= 6; k++) {
            run.calls("reset(2," + k + ",24) = 24");
            edges(run, call, 0, k - 1);
        }
    }

    /** The edges of an argument that is a piece, with each number of files there can be. */
    static void pieces(int promise, String call) {
        Run run = Said.in(promise, "`piece`: the piece");
        for (int n = 1; n <= 5; n++) {
            run.calls("reset(" + n + ",2,60) = " + 12 * n);
            edges(run, call, 0, 12 * n - 1);
        }
    }
}
