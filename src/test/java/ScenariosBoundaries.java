/** Boundary cases of the promises 28 to 32, and of the text in the section 'Terms': scenarios. */
final class ScenariosBoundaries {
    private static final String DIGITS = "0123456789";
    private static final String LETTERS = "wnqistlj";

    private ScenariosBoundaries() { }

    static void all() {
        type();
        clearText();
        fault();
        eachByteAtEachPlace();
        eachPrefix();
        blanks();
        run();
        eachError();
        why();
    }

    private static void type() {
        Run letter = Said.in(28, "`letter`: the byte, 0 to 127");
        Boundary.edges(letter, "type(#)", 0, 127);
        letter.calls("count(9) = 2; type(BAD) = BAD; type(256) = BAD; type(304) = BAD; count(9) = 2");
        Said.in(28, "FULL if the text has 80 bytes").calls("78 * type(32); type(32) = 79; type(110) = 80; type(32) = FULL;"
                + " type(0) = FULL; type(127) = FULL; count(9) = 80; fault() = 80; clearText() = 80; type(32) = 1");
        Said.in(28, "Returns the length of the text").calls("type(65) = 1; type(65) = 2; clearText() = 2; type(65) = 1;"
                + " reset(5,6,60); type(65) = 2; save(0); type(65) = 3; restore(0); type(65) = 4");
        Said.in(0, "There is a text of at most 80 bytes").text("n0;".repeat(26) + "  ").calls("count(9) = 80; type(59) = FULL;"
                + " fault() = NONE; run() = 26; why() = 0; count(9) = 80");
    }

    private static void clearText() {
        Said.in(29, "Returns the length that it had").calls("clearText() = 0; clearText() = 0; type(0) = 1; clearText() = 1;"
                + " clearText() = 0; 79 * type(120); clearText() = 79; 80 * type(120); type(120) = FULL; clearText() = 80; count(9) = 0;"
                + " fault() = NONE");
        Said.in(29, "Empties the text").text("l0;").calls("clearText() = 3; fault() = NONE; run() = 0; count(8) = 1; type(108) = 1;"
                + " fault() = 1; type(48) = 2; fault() = 2; type(59) = 3; fault() = NONE; run() = 1; count(8) = 0");
    }

    private static void fault() {
        Run none = Said.in(30, "NONE if there is no fault").calls("fault() = NONE");
        for (String text : new String[] {"w00;", "w99;", "n0;", "n9;", "q0;", "q9;", "q00;", "q99;", "i0;", "i99;", "s0;", "s9;", "t0;",
            "t99;", "l0;", "l9;", "j0;", "j9;", "w00;".repeat(20), "n0;".repeat(26), " ".repeat(77) + "n0;", "n" + " ".repeat(77) + "0;"}) {
            none.newText(text).calls("fault() = NONE");
        }
        Run index = Said.in(30, "Returns the index");
        index.text("x").calls("fault() = 0").newText("w00;x").calls("fault() = 4").newText(" ".repeat(79) + "x").calls("fault() = 79");
        index.newText("n0;".repeat(26) + " x").calls("fault() = 79").newText("xx").calls("fault() = 0").newText("w0x0x").calls("fault() = 2");
        Run first = Said.in(0, "the first byte that cannot stand at its place");
        first.text("w00;;;").calls("fault() = 4").newText(";w00;").calls("fault() = 0").newText("w00;n;x").calls("fault() = 5");
        Run early = Said.in(0, "or the length of the text if it ends too early");
        early.text("w").calls("fault() = 1").newText("w00;".repeat(19) + "w00 ").calls("fault() = 80");
        early.newText("n0;".repeat(26) + "n0").calls("fault() = 80").newText("n0;".repeat(26) + "n").calls("fault() = 79");
        early.newText(" ".repeat(79) + "w").calls("fault() = 80");
        Run digit = Said.in(0, "User, file and method are single digits, 0 to 9");
        digit.text("w90;s9;n9;l9;j9;w09;").calls("fault() = NONE").newText("n10;").calls("fault() = 2").newText("w100;").calls("fault() = 3");
        digit.newText("s01;").calls("fault() = 2").newText("l00;").calls("fault() = 2").newText("j99;").calls("fault() = 2");
        digit.newText("w000;").calls("fault() = 3").newText("n/;").calls("fault() = 1").newText("n:;").calls("fault() = 1");
        Run number = Said.in(0, "a number has one or two digits, as many as there are").calls("reset(1,6,12)");
        number.text("q5;").calls("run() = 1; user(0,2) = 10").newText("q05;").calls("run() = 1").newText("q005;").calls("fault() = 3");
        number.newText("q;").calls("fault() = 1").newText("q100;").calls("fault() = 3").newText("q1 0;").calls("fault() = 3");
        number.newText("q 10;").calls("fault() = NONE; run() = 0; why() = BAD").newText("q1;").calls("run() = 1; why() = 0");
    }

    /** Behind each beginning of a call, and behind a blank there, all 128 bytes are tried. */
    private static void eachByteAtEachPlace() {
        Run run = Said.in(0, "The fault of a text is the index, from 0, of the first byte that cannot stand at its place");
        for (String before : new String[] {"", "n0;", "w00;", "q1;t63;"}) {
            places(run, before, LETTERS);
            places(run, before + "w", DIGITS);
            places(run, before + "w0", DIGITS);
            places(run, before + "w09", ";");
            for (String letter : new String[] {"n", "s", "l", "j"}) {
                places(run, before + letter, DIGITS);
                places(run, before + letter + "5", ";");
            }
            for (String letter : new String[] {"q", "i", "t"}) {
                places(run, before + letter, DIGITS);
                allBytes(run, before + letter + "5", ";" + DIGITS);
                allBytes(run, before + letter + "5 ", ";");
                places(run, before + letter + "50", ";");
            }
        }
    }

    private static void places(Run run, String before, String allowed) {
        allBytes(run, before, allowed);
        allBytes(run, before + " ", allowed);
    }

    private static void allBytes(Run run, String before, String allowed) {
        for (char letter = 0; letter < 128 && !run.muted; letter++) {
            String text = before + letter;
            boolean stands = letter == ' ' || allowed.indexOf(letter) >= 0;
            int fault = !stands ? before.length() : isWhole(text) ? -1 : text.length();
            run.object.clearText();
            for (char each : text.toCharArray()) {
                run.object.type(each);
            }
            run.due("fault() of '" + text + "' with " + (int) letter, run.object.fault(), fault);
        }
    }

    /** A text whose bytes can all stand where they are is whole if its last call is. */
    private static boolean isWhole(String text) {
        return text.isBlank() || text.strip().endsWith(";");
    }

    private static void eachPrefix() {
        Run run = Said.in(0, "if it ends too early");
        for (String text : new String[] {"w01;n2;q3;i45;s0;t63;l5;j5;", " w 0 1 ; q 12 ; t 6 ;n 0 ; "}) {
            run.newText("");
            for (int length = 1; length <= text.length(); length++) {
                run.calls("type(" + (int) text.charAt(length - 1) + ") = " + length);
                run.calls("fault() = " + (isWhole(text.substring(0, length)) ? -1 : length));
                if (!isWhole(text.substring(0, length))) {
                    run.calls("run() = STATE");
                }
            }
        }
    }

    private static void blanks() {
        Run run = Said.in(0, "Blanks (byte 32) can stand before and after each of these parts").calls("reset(2,2,0)");
        run.text("  w  1  1  ;  l  0  ;  ").calls("fault() = NONE; run() = 2; user(1,0) = 1; count(8) = 2");
        run.newText("w 10;").calls("run() = 1").newText("w1 0;").calls("run() = 1").newText("w10 ;").calls("run() = 1; user(1,0) = 0");
        run.newText("q 0 ;").calls("fault() = NONE").newText("q0 0;").calls("fault() = 3").newText("q 0 0;").calls("fault() = 4");
        for (char other : new char[] {0, 9, 10, 13, 31, 33, 95, 127}) {
            run.newText("w00;" + other).calls("fault() = 4; run() = STATE").newText("w0" + other + "0;").calls("fault() = 2");
        }
        // Of blanks alone: no byte is at a wrong place, and no call is begun that could end too early.
        Run alone = Said.in(0, "scenario = { call \";\" }").calls("fault() = NONE; run() = 0; why() = 0");
        alone.text(" ").calls("fault() = NONE; run() = 0; why() = 0").newText(" ".repeat(79)).calls("fault() = NONE; run() = 0");
        alone.newText(" ".repeat(80)).calls("fault() = NONE; run() = 0; why() = 0; type(32) = FULL");
    }

    private static void run() {
        Said.in(31, "Returns the number of calls that returned no error").calls("run() = 0").text("w00;").calls("run() = 1")
                .newText("w01;").calls("run() = 0").newText("n0;".repeat(26)).calls("run() = 26").newText("n0;".repeat(25) + "n1;")
                .calls("run() = 25; why() = BAD").newText("n1;" + "n0;".repeat(25)).calls("run() = 0; why() = BAD");
        Run state = Said.in(31, "STATE if the text has a fault (no call is made then)").calls("reset(2,2,0)");
        state.text("w01;l0;x").calls("run() = STATE; user(0,0) = NONE; count(8) = 3; why() = NONE; fault() = 7");
        state.newText("w01;l0;l;").calls("run() = STATE; user(0,0) = NONE; count(8) = 3; fault() = 8");
        state.newText("w01;l0").calls("run() = STATE; user(0,0) = NONE; count(8) = 3").text(";").calls("run() = 2; count(8) = 2");
        state.newText("n0;".repeat(26) + "n0").calls("run() = STATE; user(0,0) = 1; why() = 0; type(59) = FULL; run() = STATE");
        Run until = Said.in(31, "one after the other, until one returns an error").calls("reset(2,2,0)");
        until.text("w01;l0;l0;l1;w00;").calls("run() = 2; count(8) = 2; user(0,0) = 1; why() = STATE; run() = 1; count(8) = 2");
        // NONE and 0 are no errors: want answers NONE, and send 0 as nobody receives.
        until.newText("n0;n0;s0;l1;").calls("run() = 4; why() = 0; count(8) = 0").newText("w00;s0;t0;n0;").calls("run() = 4; why() = 0");
        Said.in(31, "The text stays").text("w00; ").calls("run() = 1; count(9) = 5; fault() = NONE; run() = 1; clearText() = 5")
                .text("j0;w00").calls("run() = STATE; count(9) = 6; fault() = 6; clearText() = 6").text("j0;w00;")
                .calls("run() = 0; count(9) = 7; fault() = NONE; run() = 0; clearText() = 7");
    }

    /** The last argument that is taken and the first that is refused, by each letter. */
    private static void eachError() {
        Run run = Said.in(0, "They stand for want(user, file), want(user, NONE), storeSubsets(number), idle(number)")
                .calls("reset(5,6,60); plan(0,0,0)");
        String[] taken = {"w54;", "w00;", "n5;", "q0;", "q6;", "i1;", "i50;", "s3;", "s0;", "t0;", "t63;", "l5;", "j5;", "l0;", "j0;"};
        for (String text : taken) {
            run.calls("sum(1)".repeat(text.charAt(0) == 't' ? 1 : 0)).newText(text).calls("run() = 1; why() = 0");
        }
        for (String text : new String[] {"w60;", "w05;", "w99;", "n6;", "n9;", "q7;", "q07;", "q99;", "i0;", "i00;", "i51;", "i99;", "s4;",
            "s9;", "t64;", "t99;", "l6;", "l9;", "j6;", "j9;"}) {
            run.newText(text).calls("sum(1); run() = 0; why() = BAD; schedule(0) = 0");
        }
        run.newText("i1;").calls("sum(1); run() = 0; why() = STATE").newText("t0;t0;").calls("run() = 1; why() = STATE");
        run.newText("j0;").calls("run() = 0; why() = STATE").newText("l0;l0;").calls("run() = 1; why() = STATE");
        run.calls("reset(5,6,59); 100 * sum(1); 100 * send(0); sum(1)").newText("t0;").calls("run() = 0; why() = FULL; count(3) = 1");
        run.newText("q0;q6;").calls("run() = 1; why() = FULL; user(0,2) = 0").newText("t64;").calls("run() = 0; why() = BAD");
    }

    private static void why() {
        Said.in(32, "NONE if there was no such run()").calls("why() = NONE").text("w0").calls("why() = NONE; run() = STATE;"
                + " why() = NONE; reset(1,1,0); why() = NONE; save(0); restore(0); why() = NONE").text("0;").calls("why() = NONE; run() = 1;"
                + " why() = 0");
        Said.in(32, "0 if no call returned an error").calls("run() = 0; why() = 0").text("w00;n0;").calls("run() = 2; why() = 0");
        Run latest = Said.in(32, "the latest run() that did not return STATE").text("j0;").calls("run() = 0; why() = STATE");
        latest.newText("x").calls("run() = STATE; why() = STATE").newText("").calls("why() = STATE; run() = 0; why() = 0");
        latest.newText("x").calls("run() = STATE; why() = 0").newText("w09;").calls("run() = 0; why() = BAD").text("x");
        latest.calls("run() = STATE; why() = BAD; clearText() = 5; why() = BAD; join(0) = STATE; why() = BAD; send(0) = STATE;"
                + " why() = BAD");
        Said.in(32, "Returns the error that the last call returned").text("w05;").calls("run() = 0; why() = BAD").newText("l0;l0;")
                .calls("run() = 1; why() = STATE").newText("q1;").calls("run() = 0; why() = FULL; reset(1,1,12); why() = FULL; run() = 1;"
                + " why() = 0");
    }
}
