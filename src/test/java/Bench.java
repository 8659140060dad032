import java.util.concurrent.Callable;

/** One ModuleForge with calls that compare its answers with those that are due. */
final class Bench {
    private static int wrong = 0;

    final ModuleForge forge = new ModuleForge();

    /** Ends the test: exit code 1 if an answer was not as due. */
    static void end() {
        if (wrong != 0) {
            System.out.println(wrong + " answers are not as due");
            System.exit(1);
        }
    }

    static void due(String call, Object got, Object want) {
        if (!got.equals(want)) {
            wrong++;
            System.out.println(call + " answered " + got + ", due is " + want);
        }
    }

    /** What a call answers, or the short name of the exception that it throws. */
    static String answer(Callable<?> call) {
        try {
            return String.valueOf(call.call());
        } catch (Exception e) {
            return e.getClass().getSimpleName();
        }
    }

    /** The characters as the bytes of a long, the first one highest. */
    static long pack(String characters) {
        long w = 0;
        for (int i = 0; i < characters.length(); i++) {
            w = w << 8 | characters.charAt(i);
        }
        return w;
    }

    /** These characters alone are THE TEXT. */
    Bench give(String text) {
        forge.clear();
        for (int i = 0; i < text.length(); i += 8) {
            forge.text(pack(text.substring(i, Math.min(i + 8, text.length()))));
        }
        return this;
    }

    /** The text is a PROGRAM with so many BINDINGS. */
    Bench good(String text, int bindings) {
        give(text);
        due("elaborate of " + text, answer(forge::elaborate), String.valueOf(bindings));
        due("where of " + text, forge.where(), ModuleForge.NONE);
        return this;
    }

    /** The text without its mark ^ is no PROGRAM, since none goes on so where the mark was. */
    void noProgram(String marked) {
        fault(marked, "IllegalArgumentException");
    }

    /** In the text without its mark ^ the TOKEN that was behind the mark is WRONG. */
    void wrong(String marked) {
        fault(marked, "UnsupportedOperationException");
    }

    private void fault(String marked, String exception) {
        int place = marked.indexOf('^');
        give(marked.substring(0, place) + marked.substring(place + 1));
        due("elaborate of " + marked, answer(forge::elaborate), exception);
        due("where of " + marked, forge.where(), place);
    }

    /** look answers that (a number, or an exception's name). */
    Bench look(int what, String path, Object want) {
        due("look(" + what + ", " + path + ")", answer(() -> forge.look(what, pack(path))), String.valueOf(want));
        return this;
    }

    Bench type(String path, int leaves, String text) {
        return look(1, path, leaves).told(text);
    }

    Bench value(String path, int leaves, String text) {
        return look(0, path, leaves).told(text);
    }

    Bench told(String want) {
        due("told(-1)", forge.told(-1), want.length());
        StringBuilder got = new StringBuilder();
        for (int k = 0; k < forge.told(-1); k++) {
            got.append((char) forge.told(k));
        }
        due("told", got.toString(), want);
        due("told behind the end", forge.told(want.length()), ModuleForge.NONE);
        return this;
    }

    Bench matches(String path, char name, Object want) {
        due("matches(" + path + ", " + name + ")", answer(() -> forge.matches(pack(path), name)), String.valueOf(want));
        return this;
    }

    Bench run(int limit, Object want, int steps) {
        due("run(" + limit + ")", answer(() -> forge.run(limit)), String.valueOf(want));
        return count(3, steps);
    }

    Bench result(String path, Object want) {
        due("result(" + path + ")", answer(() -> forge.result(pack(path))), String.valueOf(want));
        return this;
    }

    Bench count(int what, Object want) {
        due("count(" + what + ")", answer(() -> forge.count(what)), String.valueOf(want));
        return this;
    }
}
