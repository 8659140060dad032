/** The bounds of promises 6 and 7: what from 0 to 2, PATHS, what is refused, and the characters that are told. */
public final class LookEdgesTest {
    private static final String ILLEGAL_ARGUMENT = "IllegalArgumentException";
    private static final String NO_SUCH_ELEMENT = "NoSuchElementException";

    public static void main(String[] args) {
        whatThatIsRefused();
        pathsThatAreRefused();
        everyByteInAPath();
        noProgram();
        noneSuch();
        zerosLeftOut();
        longestPaths();
        leavesAndComponents();
        asAtTheEnd();
        toldOfNothing();
        toldAboutItsEnds();
        toldOfTheLatest();
        toldBehindAModule();
        toldBehindAnotherProgram();
        shortestAndLongestTexts();
        Bench.end();
    }

    private static void whatThatIsRefused() {
        for (int what : new int[] {-1, 3, 4, -2, 256, Integer.MIN_VALUE, Integer.MAX_VALUE}) {
            for (String path : new String[] {"x", "A.x", "A", "A.B", ""}) {
                Stories.refusedAlways("look(" + what + ", " + path + ")", f -> f.look(what, Bench.pack(path)), ILLEGAL_ARGUMENT);
            }
        }
    }

    private static void pathsThatAreRefused() {
        String[] paths = {"", ".", "..", "A.", "x.", ".x", ".A", "A..x", "A..B", "Ax", "xA", "AB", "xy", "x.x", "x.A", "A.x.x", "A.x.B", "A x", " x",
            "x ", "A. x", "1", "A.1", "A,x", "A:x", "A.B.C.D.", "ABCDEFGH", "........", "int", "@", "[", "`", "{", "A/x"};
        for (String path : paths) {
            for (int what = 0; what <= 2; what++) {
                int sort = what;
                Stories.refusedAlways("look(" + what + ", " + path + ")", f -> f.look(sort, Bench.pack(path)), ILLEGAL_ARGUMENT);
            }
        }
        // a VALUE or TYPE has a small NAME at its end, a MODULE a great one
        for (String path : new String[] {"A", "A.B"}) {
            Stories.refusedAlways("look(0, " + path + ")", f -> f.look(0, Bench.pack(path)), ILLEGAL_ARGUMENT);
            Stories.refusedAlways("look(1, " + path + ")", f -> f.look(1, Bench.pack(path)), ILLEGAL_ARGUMENT);
        }
        Stories.refusedAlways("look(2, x)", f -> f.look(2, 'x'), ILLEGAL_ARGUMENT);
        Stories.refusedAlways("look(2, A.x)", f -> f.look(2, Bench.pack("A.x")), ILLEGAL_ARGUMENT);
    }

    private static void everyByteInAPath() {
        Bench b = new Bench().good("val a=1;", 1);
        Bench e = new Bench().good("val a=1;", 1);
        for (int c = 1; c <= 255; c++) {
            int letter = c;
            boolean small = c >= 'a' && c <= 'z';
            boolean great = c >= 'A' && c <= 'Z';
            String value = c == 'a' ? "1" : small ? NO_SUCH_ELEMENT : ILLEGAL_ARGUMENT;
            Bench.due("look(0, " + c + ")", Bench.answer(() -> b.forge.look(0, letter)), value);
            Bench.due("look(2, " + c + ")", Bench.answer(() -> e.forge.look(2, letter)), great ? NO_SUCH_ELEMENT : ILLEGAL_ARGUMENT);
        }
        Bench d = new Bench().good("mod A={val a=1;};", 1);
        for (int c = 1; c <= 255; c++) {
            long between = 0x410061L | c << 8;
            Bench.due("look(0, A and " + c + " and a)", Bench.answer(() -> d.forge.look(0, between)), c == '.' ? "1" : ILLEGAL_ARGUMENT);
        }
        Bench.due("the highest bytes", Bench.answer(() -> d.forge.look(0, 0x412E610000000000L)), "1");
        Bench.due("look(0, -1)", Bench.answer(() -> d.forge.look(0, -1)), ILLEGAL_ARGUMENT);
        Bench.due("look of the least", Bench.answer(() -> d.forge.look(0, Long.MIN_VALUE)), ILLEGAL_ARGUMENT);
    }

    private static void noProgram() {
        Stories.refused(Stories.withoutProgram(), "look(0, x)", f -> f.look(0, 'x'), "IllegalStateException");
        Stories.refused(Stories.withoutProgram(), "look(1, A.t)", f -> f.look(1, Bench.pack("A.t")), "IllegalStateException");
        Stories.refused(Stories.withoutProgram(), "look(2, A)", f -> f.look(2, 'A'), "IllegalStateException");
    }

    private static void noneSuch() {
        String[] values = {"z", "t", "A.y", "A.t", "B.x", "F.x", "A.A.x", "X.x"};
        for (String path : values) {
            Stories.refused(Stories.withProgram(), "look(0, " + path + ")", f -> f.look(0, Bench.pack(path)), NO_SUCH_ELEMENT);
        }
        for (String path : new String[] {"x", "u", "A.x", "F.t", "S.t", "A.A.t"}) {
            Stories.refused(Stories.withProgram(), "look(1, " + path + ")", f -> f.look(1, Bench.pack(path)), NO_SUCH_ELEMENT);
        }
        for (String path : new String[] {"S", "X", "B", "A.A", "F.X", "S.A"}) {
            Stories.refused(Stories.withProgram(), "look(2, " + path + ")", f -> f.look(2, Bench.pack(path)), NO_SUCH_ELEMENT);
        }
        new Bench().good("", 0).look(0, "x", NO_SUCH_ELEMENT).look(1, "x", NO_SUCH_ELEMENT).look(2, "X", NO_SUCH_ELEMENT).told("");
    }

    private static void zerosLeftOut() {
        Bench b = new Bench().good("mod A={mod B={val x=(1,2);};};", 1);
        for (long path : new long[] {0x412E422E78L, 0x412E422E78000000L, 0x0041002E422E0078L, 0x41002E00422E7800L}) {
            Bench.due("look(0, " + path + ")", Bench.answer(() -> b.forge.look(0, path)), "2");
        }
        Bench.due("nothing but zeros", Bench.answer(() -> b.forge.look(0, 0)), ILLEGAL_ARGUMENT);
    }

    private static void longestPaths() {
        Bench b = new Bench().good("mod A={mod B={mod C={val x=1;type t=int*int;mod D={val y=1;};};};};", 1);
        b.value("A.B.C.x", 1, "int").type("A.B.C.t", 2, "(int*int)").look(2, "A.B.C.D", 1).look(2, "A.B.C", 3);
        b.look(0, "A.B.C.y", NO_SUCH_ELEMENT).look(2, "A.B.C.C", NO_SUCH_ELEMENT);
    }

    private static void leavesAndComponents() {
        Bench b = new Bench().good("type a=int;type b=a*a;type c=b*b*b->b->b;type d=c*c;type e=d->c;val x=1;val y=\\x:d.1;", 7);
        b.look(1, "a", 1).look(1, "b", 2).look(1, "c", 10).look(1, "d", 20).look(1, "e", 30).look(0, "x", 1).look(0, "y", 21);
    }

    private static void asAtTheEnd() {
        Bench b = new Bench().good("val x=1;type t=int;mod A={val x=1;};val x=true;type t=bool;mod A={val y=(1,2);};mod B={val x=2;type t=int;};", 7);
        b.value("x", 1, "bool").type("t", 1, "bool").look(2, "A", 1).look(0, "A.x", NO_SUCH_ELEMENT).value("A.y", 2, "(int*int)");
        // of a MODULE those COMPONENTS alone that it offers, and not those in others
        b.good("mod A={val x=1;mod B={val x=1;val y=2;mod C={val z=1;};};mod D=fun(X:{val x:int;})X;};mod E=A:>{mod B:{};};", 2);
        b.look(2, "A", 3).look(2, "A.B", 3).look(2, "A.B.C", 1).look(2, "A.D", -1).look(2, "E", 1).look(2, "E.B", 0);
        b.look(0, "E.x", NO_SUCH_ELEMENT).look(0, "E.B.x", NO_SUCH_ELEMENT).look(2, "E.B.C", NO_SUCH_ELEMENT);
    }

    private static void told(Bench b, int k, int want) {
        Bench.due("told(" + k + ")", b.forge.told(k), want);
    }

    private static void toldOfNothing() {
        Bench b = new Bench();
        for (int i = 0; i < 3; i++) {
            told(b, -1, 0);
            for (int k : new int[] {0, 1, 2, -2, -3, 100, Integer.MIN_VALUE, Integer.MAX_VALUE}) {
                told(b, k, ModuleForge.NONE);
            }
            if (i == 0) {
                b.look(0, "x", "IllegalStateException");
            } else {
                b.good("val x=1;", 1).look(0, "y", NO_SUCH_ELEMENT).run(1, 1, 1);
            }
        }
    }

    private static void toldAboutItsEnds() {
        Bench b = new Bench().good("val x=(1,true);", 1).look(0, "x", 2);
        told(b, -1, 10);
        told(b, 0, '(');
        told(b, 8, 'l');
        told(b, 9, ')');
        for (int k : new int[] {10, 11, -2, -3, 256, 1000, Integer.MIN_VALUE, Integer.MAX_VALUE}) {
            told(b, k, ModuleForge.NONE);
        }
        told(b, -1, 10);
    }

    private static void toldOfTheLatest() {
        Bench b = new Bench().good("val x=(1,true);type t=int;type u=t->t->t;", 3);
        b.value("x", 2, "(int*bool)").type("t", 1, "int").type("u", 3, "(int->(int->int))").type("t", 1, "int");
        b.run(1, 1, 1).result("x", "UnsupportedOperationException").count(3, 1).give("val").told("int");
        b.noProgram("val^");
        b.told("int");
        b.wrong("val x=^z;");
        b.told("int").look(0, "q", NO_SUCH_ELEMENT).look(0, "", ILLEGAL_ARGUMENT).look(3, "t", ILLEGAL_ARGUMENT).told("int");
    }

    private static void toldBehindAModule() {
        Bench b = new Bench().good("val x=(1,true);mod A={};mod F=fun(X:{})X;", 3);
        b.value("x", 2, "(int*bool)").look(2, "A", 0).told("");
        b.value("x", 2, "(int*bool)").look(2, "F", -1).told("").told("");
        // one that is not there does not count
        b.value("x", 2, "(int*bool)").look(2, "B", NO_SUCH_ELEMENT).look(2, "x", ILLEGAL_ARGUMENT).told("(int*bool)");
    }

    private static void toldBehindAnotherProgram() {
        Bench b = new Bench().good("val x=1;", 1).value("x", 1, "int");
        b.good("val x=1;", 1).told("").value("x", 1, "int");
        b.good("", 0).told("").look(0, "x", NO_SUCH_ELEMENT).told("");
    }

    private static void shortestAndLongestTexts() {
        Bench b = new Bench().good("type t=int;type u=bool;mod A={type t=int;}:>{type t;};", 3);
        b.type("A.t", 1, "#0").type("t", 1, "int").type("u", 1, "bool");
        // thirty LEAVES of bool in ARROWS
        b.good("type a=bool->bool->bool;type b=a->a->a->a->a;type c=b->b;", 3).look(1, "c", 30);
        String a = "(bool->(bool->bool))";
        String five = "(" + a + "->(" + a + "->(" + a + "->(" + a + "->" + a + "))))";
        b.told("(" + five + "->" + five + ")");
        Bench.due("its length", b.forge.told(-1), 30 * 4 + 29 * 4);
        // thirty of a SECRET with three digits
        String signs = "sig S={type a;type b;type c;type d;type e;};sig T={mod A:S;mod B:S;};mod F=fun(X:T)X" + ":>T".repeat(17) + ";";
        b.good(signs + "mod A={type t=int;}:>{type t;};type a=A.t->A.t->A.t;type b=a->a->a->a->a;type c=b->b;", 7).look(1, "c", 30);
        b.told(("(" + five + "->" + five + ")").replace("bool", "#195"));
    }
}
