import java.util.concurrent.Callable;

/** One ModuleForge with calls that compare its answers with those that are due. */
final class Bench {
    /** Calls that bring an object into some state. */
    interface Story {
        void tell(Bench b);
    }

    /** One call on an object. */
    interface Call {
        Object on(ModuleForge forge);
    }

    private static int wrong = 0;

    // nothing is promised behind the 512th call of an object, and some calls are not counted here
    private static final int CALLS_OF_AN_OBJECT = 440;

    ModuleForge forge = new ModuleForge();
    private int calls;

    /** Ends the test: exit code 1 if an answer was not as due. */
    static void end() {
        if (wrong != 0) {
            System.out.println(wrong + " answers are not as due");
            System.exit(1);
        }
    }

    static void due(String call, Object got, Object want) {
        if (!got.equals(want)) {
            wrong++;
            System.out.println(call + " answered " + got + ", due is " + want);
        }
    }

    /** What a call answers, or the short name of the exception that it throws. */
    static String answer(Callable<?> call) {
        try {
            return String.valueOf(call.call());
        } catch (Exception e) {
            return e.getClass().getSimpleName();
        }
    }

    /** The call throws that, and later calls answer as on an object that has not been called so. */
    static void refused(String name, Story before, Call call, String exception) {
        Bench called = new Bench();
        Bench other = new Bench();
        before.tell(called);
        before.tell(other);
        due(name, answer(() -> call.on(called.forge)), exception);
        due("where after " + name, called.forge.where(), other.forge.where());
        due("what is there after " + name, called.allAnswers(), other.allAnswers());
        due("what THE TEXT is after " + name, called.allOfText(), other.allOfText());
    }

    /** The text, with the mark ^ before the place of its fault, is refused; all but where stays as it was. */
    static void refusedText(Story before, String marked, String exception) {
        Bench called = new Bench();
        Bench other = new Bench();
        before.tell(called);
        before.tell(other);
        called.fault(marked, exception);
        other.give(marked.replace("^", ""));
        due("what is there after " + marked, called.allAnswers(), other.allAnswers());
        due("what THE TEXT is after " + marked, called.allOfText(), other.allOfText());
    }

    // an object is used for 512 calls at most, so these ask for little
    private String allAnswers() {
        StringBuilder seen = new StringBuilder();
        for (int what = 0; what <= 3; what++) {
            seen.append(forge.count(what)).append(' ');
        }
        seen.append(spelled()).append(' ');
        for (String path : new String[] {"x", "y", "f", "A.x"}) {
            seen.append(answer(() -> forge.result(pack(path)))).append(' ');
        }
        seen.append(answer(() -> forge.matches('A', 'S'))).append(' ').append(answer(() -> forge.matches('F', 'S')));
        for (String path : new String[] {"0x", "0y", "0f", "1t", "1A.t", "2A", "2F"}) {
            seen.append(' ').append(answer(() -> forge.look(path.charAt(0) - '0', pack(path.substring(1)))));
            seen.append(' ').append(spelled());
        }
        return seen.toString();
    }

    /** What elaborate makes of THE TEXT, as it is and with a little more. */
    private String allOfText() {
        StringBuilder seen = new StringBuilder();
        for (String more : new String[] {"", ";", "val y=3;"}) {
            seen.append(answer(() -> forge.text(pack(more)))).append(' ');
            seen.append(answer(forge::elaborate)).append(' ').append(forge.where()).append(' ');
            seen.append(answer(() -> forge.run(500))).append(' ').append(allAnswers());
        }
        return seen.toString();
    }

    private String spelled() {
        StringBuilder text = new StringBuilder();
        int length = forge.told(-1);
        for (int k = 0; k < length; k++) {
            text.append((char) forge.told(k));
        }
        return text.toString();
    }

    /** The characters as the bytes of a long, the first one highest. */
    static long pack(String characters) {
        long w = 0;
        for (int i = 0; i < characters.length(); i++) {
            w = w << 8 | characters.charAt(i);
        }
        return w;
    }

    /** These characters alone are THE TEXT, that of a new object if this one has been called often. */
    Bench give(String text) {
        if (calls > CALLS_OF_AN_OBJECT) {
            forge = new ModuleForge();
            calls = 0;
        }
        calls += 4 + text.length() / 8;
        forge.clear();
        for (int i = 0; i < text.length(); i += 8) {
            forge.text(pack(text.substring(i, Math.min(i + 8, text.length()))));
        }
        return this;
    }

    /** The text is a PROGRAM with so many BINDINGS. */
    Bench good(String text, int bindings) {
        give(text);
        due("elaborate of " + text, answer(forge::elaborate), String.valueOf(bindings));
        due("where of " + text, forge.where(), ModuleForge.NONE);
        return this;
    }

    /** The text without its mark ^ is no PROGRAM, since none goes on so where the mark was. */
    void noProgram(String marked) {
        fault(marked, "IllegalArgumentException");
    }

    /** In the text without its mark ^ the TOKEN that was behind the mark is WRONG. */
    void wrong(String marked) {
        fault(marked, "UnsupportedOperationException");
    }

    /** The text can be read; whether something in it is WRONG is not looked at. */
    void read(String text) {
        give(text);
        String got = answer(forge::elaborate);
        due("whether " + text + " can be read", got.equals("IllegalArgumentException"), false);
    }

    private void fault(String marked, String exception) {
        int place = marked.indexOf('^');
        give(marked.substring(0, place) + marked.substring(place + 1));
        due("elaborate of " + marked, answer(forge::elaborate), exception);
        due("where of " + marked, forge.where(), place);
    }

    /** look answers that (a number, or an exception's name). */
    Bench look(int what, String path, Object want) {
        calls++;
        due("look(" + what + ", " + path + ")", answer(() -> forge.look(what, pack(path))), String.valueOf(want));
        return this;
    }

    Bench type(String path, int leaves, String text) {
        return look(1, path, leaves).told(text);
    }

    Bench value(String path, int leaves, String text) {
        return look(0, path, leaves).told(text);
    }

    Bench told(String want) {
        calls += want.length() + 3;
        due("told(-1)", forge.told(-1), want.length());
        due("told", spelled(), want);
        due("told behind the end", forge.told(want.length()), ModuleForge.NONE);
        return this;
    }

    Bench matches(String path, char name, Object want) {
        calls++;
        due("matches(" + path + ", " + name + ")", answer(() -> forge.matches(pack(path), name)), String.valueOf(want));
        return this;
    }

    Bench run(int limit, Object want, int steps) {
        calls++;
        due("run(" + limit + ")", answer(() -> forge.run(limit)), String.valueOf(want));
        return count(3, steps);
    }

    Bench result(String path, Object want) {
        calls++;
        due("result(" + path + ")", answer(() -> forge.result(pack(path))), String.valueOf(want));
        return this;
    }

    Bench count(int what, Object want) {
        calls++;
        due("count(" + what + ")", answer(() -> forge.count(what)), String.valueOf(want));
        return this;
    }
}
