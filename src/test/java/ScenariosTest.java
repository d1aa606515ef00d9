/** Promises 28 to 32: scenarios. */
public final class ScenariosTest {
    public static void main(String[] args) {
        type();
        clearText();
        fault();
        run();
        eachCall();
        why();
        Run.end();
    }

    private static void type() {
        Run run = new Run("28 type").calls("type(0) = 1; type(127) = 2; type(-1) = BAD; type(128) = BAD; type(MIN) = BAD;"
                + " type(MAX) = BAD; count(9) = 2").times(78, "type(32)");
        run.calls("count(9) = 80; type(59) = FULL; type(128) = BAD; type(-1) = BAD; count(9) = 80; fault() = 0;"
                + " clearText() = 80; type(59) = 1");
    }

    private static void clearText() {
        new Run("29 clearText").calls("clearText() = 0; type(65) = 1; type(65) = 2; fault() = 0; clearText() = 2;"
                + " count(9) = 0; fault() = NONE; clearText() = 0; run() = 0");
    }

    private static void fault() {
        Run run = new Run("30 fault");
        String[] right = {"", " ", "    ", "w00;", " w 0 0 ; ", "w99;n9;s9;l9;j9;q99;i99;t99;", "q0;", "q 07 ;", "i 1;t0;",
            "n0 ;  n 0;", "w00; ", "t63;"};
        for (String text : right) {
            run.newText(text).due("fault() of '" + text + "'", run.object.fault(), -1);
        }
        faultAt(run, 0, "x", ";", "0", "W00;", "\t", "\0", "=w00;");
        faultAt(run, 1, "w", "wx0;", "w;", "n;", "q;", "i", "s-1;", "t+;", " ;", " 7", "j\n0;");
        faultAt(run, 2, "w0", "w0;", "n0", "n00;", "q1", "q1,", "w ;", "s01;", "l1x;", "w0/", "w0:");
        faultAt(run, 3, "w00", "w00,", "q12", "q123;", "q1 2;", "w 0", "w000;", "i00x", "t 1", "j0 ", "n0 ,;");
        faultAt(run, 4, "w00;;", "w00;x", "q12 3;", "w00 x", "w00 ", "w 0 ", "  w0", "q00 ");
        faultAt(run, 5, "w00;w", "w00; ;", "w00;n;", "w 00 x", " q12 ");
        faultAt(run, 79, " ".repeat(79) + "x");
        faultAt(run, 80, "w00;".repeat(19) + "w00 ", " ".repeat(79) + "q");
        run.newText("w00;".repeat(20)).due("fault() of 20 calls", run.object.fault(), -1);
        run.newText("n0;".repeat(26) + "  ").due("fault() of 26 calls", run.object.fault(), -1);
    }

    private static void faultAt(Run run, int index, String... texts) {
        for (String text : texts) {
            run.newText(text).due("fault() of '" + text + "'", run.object.fault(), index);
        }
    }

    private static void run() {
        Run run = new Run("31 run").text("w01;s0;t0;t02;i1;n0;").calls("reset(2,2,0); run() = 4; why() = STATE; count(3) = 10;"
                + " count(4) = 2; user(0,0) = 1; user(1,3) = 1; count(9) = 20; fault() = NONE");
        run.newText("n0;s0;i1;w1 0; w 1 1 ;").calls("run() = 5; why() = 0; user(1,0) = 1; count(3) = 0");
        run.newText("w00;x").calls("run() = STATE; user(0,0) = NONE; why() = 0; fault() = 4; count(9) = 5");
        run.newText("w00;l0").calls("run() = STATE; user(0,0) = NONE; count(8) = 3");
        run.newText("").calls("run() = 0; why() = 0");
        run.newText("   ").calls("run() = 0; why() = 0");
        Run most = new Run("31 run, as many calls as fit").text("n0;".repeat(26) + "  ").calls("run() = 26; why() = 0");
        most.newText("s0;".repeat(25) + "s9 ; ").calls("run() = 25; why() = BAD");
    }

    /** Each of the eight letters, with what it changes, and with an error of its own. */
    private static void eachCall() {
        Run run = new Run("31 run, w n l j").calls("reset(2,2,12)").newText("w10;w11;").calls("run() = 2; user(1,0) = 1");
        run.newText("n1;").calls("run() = 1; user(1,0) = NONE").newText("n2;").calls("run() = 0; why() = BAD");
        run.newText("w02;").calls("run() = 0; why() = BAD").newText("w20;").calls("run() = 0; why() = BAD");
        run.newText("l1;").calls("run() = 1; count(8) = 1; run() = 0; why() = STATE");
        run.newText("j1;").calls("run() = 1; count(8) = 3; run() = 0; why() = STATE");
        run.newText("l7;").calls("run() = 0; why() = BAD").newText("j7;").calls("run() = 0; why() = BAD");
        Run more = new Run("31 run, q i s t").calls("reset(2,2,12)").newText("q1;").calls("run() = 1; user(0,2) = 12");
        more.newText("q02;").calls("run() = 0; why() = FULL; user(0,2) = 12").newText("q3;").calls("run() = 0; why() = BAD");
        more.newText("q00;").calls("run() = 1; user(0,2) = 0").times(30, "plan(0,3,3)").newText("i12;");
        more.calls("run() = 1; count(5) = 18; cached(0,3) = 1").newText("i0;").calls("run() = 0; why() = BAD");
        more.newText("i51;").calls("run() = 0; why() = BAD").newText("w10;s3;").calls("run() = 2; count(3) = 12");
        more.newText("i50;").calls("run() = 0; why() = STATE").newText("s4;").calls("run() = 0; why() = BAD; count(3) = 12");
        more.newText("t1;").calls("run() = 1; user(0,3) = 0; user(1,3) = 1").newText("t63;").calls("run() = 1; user(1,3) = 1");
        more.newText("t64;").calls("run() = 0; why() = BAD").newText("w1 1;s1;w10;s2;").calls("run() = 4; count(3) = 11");
        more.newText("t0;").times(11, "send(0)").calls("run() = 0; why() = STATE");
    }

    private static void why() {
        Run run = new Run("32 why").calls("why() = NONE").text("x").calls("run() = STATE; why() = NONE");
        run.newText("j0;").calls("run() = 0; why() = STATE").newText("x").calls("run() = STATE; why() = STATE");
        run.newText("w05;").calls("run() = 0; why() = BAD; reset(2,2,2); why() = BAD; save(0); why() = BAD");
        run.newText("q2;").calls("why() = BAD; run() = 0; why() = FULL; restore(0); why() = FULL; clearText(); why() = FULL;"
                + " run() = 0; why() = 0");
    }
}
