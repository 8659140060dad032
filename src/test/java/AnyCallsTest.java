import java.util.Random;

/** Whatever is called: only what the document says is thrown, and the same calls give the same answers. */
public final class AnyCallsTest {
    private static final String[] PIECES = {"val x=", "val f=\\x:int.", "type t=", "mod A=", "mod F=fun(X:S)", "sig S=", "{", "}", "(", ")",
        "=", "==", ";", ";", ":", ":>", ".", ",", "->", "*", "+", "-", "<", "\\", "if ", " then ", " else ", "fst ", "snd ", "int", "bool",
        "true", "x", "f", "t", "A", "F", "S", "X", "1", "12345", "$", "{type t;}", "{type t=int;}", "X.t", "A.t", "F(A)", "f(f x)", "mod A=F(A);",
        "mod A={type t=int;val x=1;};", "sig S={type t;val x:t;};", "mod F=fun(X:S)X:>S;", "mod A=A:>S;", "val x=f x;", "type t=t*t;",
        "mod A={mod A=A;mod B=A;};", "sig S={mod A:S;mod B:S;};", "sig S=fun(X:S)S;", "val f=\\x:int.f(f x);", "val x=(x,x);"};
    private static final String[] PATHS = {"x", "f", "t", "A", "F", "A.x", "A.t", "A.A", "A.A.t", "A.B.x", "X", "", "A.", "a.b", "A.B.A.B", "!"};

    public static void main(String[] args) {
        for (int seed = 0; seed < 400; seed++) {
            String first = calls(seed);
            Bench.due("calls of seed " + seed, calls(seed), first);
        }
        Bench.end();
    }

    private static String calls(int seed) {
        Random random = new Random(seed);
        Bench b = new Bench();
        StringBuilder seen = new StringBuilder();
        for (int k = 0; k < 400; k++) {
            seen.append(call(random, b, b.forge)).append(' ');
        }
        return seen.toString();
    }

    private static String call(Random random, Bench b, ModuleForge f) {
        long path = random.nextInt(20) == 0 ? random.nextLong() : Bench.pack(PATHS[random.nextInt(PATHS.length)]);
        int number = random.nextInt(20) == 0 ? random.nextInt() : random.nextInt(4);
        switch (random.nextInt(10)) {
            case 0:
                return give(random, b);
            case 1:
                return only(Bench.answer(f::elaborate), "IllegalArgumentException UnsupportedOperationException");
            case 2:
                return only(Bench.answer(f::where), "");
            case 3:
                return only(Bench.answer(() -> f.look(number, path)), "IllegalArgumentException IllegalStateException NoSuchElementException");
            case 4:
                return only(Bench.answer(() -> f.told(number - 1)), "");
            case 5:
                return only(Bench.answer(() -> f.matches(path, 'A' + number % 30)), "IllegalArgumentException IllegalStateException NoSuchElementException");
            case 6:
                return only(Bench.answer(() -> f.run(number * 166)), "IllegalArgumentException IllegalStateException");
            case 7:
                return only(Bench.answer(() -> f.result(path)),
                        "IllegalArgumentException IllegalStateException NoSuchElementException UnsupportedOperationException");
            case 8:
                return only(Bench.answer(() -> f.count(number)), "IllegalArgumentException");
            default:
                return only(Bench.answer(() -> f.text(path)), "IllegalArgumentException IllegalStateException");
        }
    }

    private static String give(Random random, Bench b) {
        StringBuilder text = new StringBuilder();
        // mostly whole BINDINGS, so that some become PROGRAMS
        int first = random.nextBoolean() ? 48 : 0;
        for (int k = 0; k < 12; k++) {
            String piece = PIECES[first + random.nextInt(PIECES.length - first)];
            if (text.length() + piece.length() <= 240) {
                text.append(piece);
            }
        }
        b.give(text.toString());
        return "given";
    }

    private static String only(String answer, String allowed) {
        boolean thrown = answer.endsWith("Exception") || answer.endsWith("Error");
        if (thrown && !allowed.contains(answer)) {
            Bench.due("a call", answer, "one of: " + allowed);
        }
        return answer;
    }
}
