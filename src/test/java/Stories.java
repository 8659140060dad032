/** States in which an object can be when a call is refused. */
final class Stories {
    private static final String PROGRAM = "sig S={type t;val x:t;};mod A={type t=int;val x=1;}:>S;val x=4+3;val f=\\y:int.y;"
            + "val y=f(f x);type t=A.t*int->bool;mod F=fun(X:S)X:>S;";

    private Stories() {
    }

    /** Nothing has been called yet. */
    static void fresh(Bench b) {
    }

    /** A TEXT that goes on, and no PROGRAM. */
    static void begun(Bench b) {
        b.give("val x=1");
    }

    /** No PROGRAM, since the only TEXT was none. */
    static void faulty(Bench b) {
        b.noProgram("val x=1;val ^");
    }

    /** A PROGRAM that has not RUN yet; nothing has been looked at. */
    static void elaborated(Bench b) {
        b.good(PROGRAM, 7);
    }

    /** A PROGRAM whose RUN has ended, a TYPE that was looked at, and a TEXT that goes on. */
    static void ended(Bench b) {
        b.good(PROGRAM, 7).run(500, 1, 8).type("t", 3, "((#1*int)->bool)");
        b.give("val x=1");
    }

    /** A PROGRAM whose RUN has not ended, and a later TEXT that is WRONG. */
    static void halted(Bench b) {
        b.good(PROGRAM, 7).run(500, 1, 8).run(5, 0, 5).value("f", 2, "(int->int)");
        b.wrong("val y=1;val x=^z;");
    }

    static Bench.Story[] withoutProgram() {
        return new Bench.Story[] {Stories::fresh, Stories::begun, Stories::faulty};
    }

    static Bench.Story[] withProgram() {
        return new Bench.Story[] {Stories::elaborated, Stories::ended, Stories::halted};
    }

    /** The call is refused so in all of these states, and none of them changes. */
    static void refused(Bench.Story[] stories, String name, Bench.Call call, String exception) {
        for (Bench.Story story : stories) {
            Bench.refused(name, story, call, exception);
        }
    }

    static void refusedAlways(String name, Bench.Call call, String exception) {
        refused(withoutProgram(), name, call, exception);
        refused(withProgram(), name, call, exception);
    }
}
