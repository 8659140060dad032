/** The bounds of promises 1 and 4: the empty TEXT, the full one, what is refused, and the PROGRAM that stays. */
public final class ElaborateEdgesTest {
    private static final String ILLEGAL_ARGUMENT = "IllegalArgumentException";
    private static final String UNSUPPORTED = "UnsupportedOperationException";

    public static void main(String[] args) {
        emptyText();
        fullText();
        noProgramChangesNothing();
        wrongChangesNothing();
        withoutAnyProgram();
        notRunYet();
        onlyThoseThatAreNotInOthers();
        theSameTextAgain();
        manyAfterEachOther();
        nothingOfEarlierOnes();
        manyFaultsInTheMidst();
        newObjectsApart();
        fiveHundredAndTwelveCalls();
        Bench.end();
    }

    private static void emptyText() {
        Bench b = new Bench();
        Bench.due("elaborate of nothing", Bench.answer(b.forge::elaborate), "0");
        b.count(0, 0).count(1, 0).count(2, 0).count(3, 0).run(0, 1, 0).look(0, "x", "NoSuchElementException").matches("A", 'S', "NoSuchElementException");
        // it is a PROGRAM, and takes the place of another one
        b.good("val x=1;", 1).good("", 0).look(0, "x", "NoSuchElementException");
    }

    private static void fullText() {
        Bench b = new Bench();
        b.good("val x=1;".repeat(30), 30).count(0, 240);
        b.good("val x=" + "1-".repeat(116) + "1;", 1).count(0, 240).run(1, 1, 1).result("x", -115);
        b.good("val x=" + "1+".repeat(115) + "123;", 1).count(0, 240).run(1, 1, 1).result("x", 238);
        b.noProgram("val x=" + "1+".repeat(117) + "^");
        b.noProgram("val x=" + "1+".repeat(116) + "11^");
        b.read("val x=f" + " 1".repeat(116) + ";");
        b.read("mod A=" + "A.".repeat(116) + "A;");
        b.read("mod A={}" + ":>S".repeat(77) + ";");
        b.read("type t=" + "t*".repeat(115) + "t ;");
        b.read("val x=" + "A.x ".repeat(58) + ";");
        b.noProgram("^" + "{".repeat(240));
        b.noProgram("val x=(((((((((^" + "(".repeat(225));
        b.noProgram("mod A={" + "mod A={".repeat(8) + "mod A=^{" + "mod A={".repeat(23));
    }

    private static Bench.Story[] all() {
        return new Bench.Story[] {Stories::fresh, Stories::begun, Stories::faulty, Stories::elaborated, Stories::ended, Stories::halted};
    }

    private static void noProgramChangesNothing() {
        String[] texts = {"^$", "val x=1^", "val x=1;val y^;", "mod A={type t=int;^", "sig S={type t;};mod A={}:>S;^}", "val x=^12345;",
            "sig S={type t;type u;};mod A={type t=int;type u=t;}:>S;val x=9;val ^Y=1;", "val x=(((((((((^1)))))))));"};
        for (Bench.Story story : all()) {
            for (String text : texts) {
                Bench.refusedText(story, text, ILLEGAL_ARGUMENT);
            }
        }
    }

    private static void wrongChangesNothing() {
        String[] texts = {"val x=^z;", "sig S={type t;type u;};mod A={type t=int;type u=t;}:>S;val x=9;val y=x^+true;",
            "sig S={};mod A={val x=5;};mod F=fun(X:S)X;mod B=A^(A);", "sig S={type t;type ^t;};", "type t=^" + "int*".repeat(30) + "int;",
            "val x=8;val f=\\x:int.x;val y=f ^true;"};
        for (Bench.Story story : all()) {
            for (String text : texts) {
                Bench.refusedText(story, text, UNSUPPORTED);
            }
        }
    }

    private static void withoutAnyProgram() {
        Bench b = new Bench();
        b.noProgram("val x=1^");
        b.wrong("val x=^y;");
        b.count(1, 0).count(2, 0).count(3, 0).told("").run(500, "IllegalStateException", 0);
        b.look(0, "x", "IllegalStateException").matches("A", 'S', "IllegalStateException").result("x", "IllegalStateException");
    }

    private static void notRunYet() {
        Bench b = new Bench().good("val x=1;", 1).run(1, 1, 1).result("x", 1);
        b.good("val x=2;val y=1;", 2).count(3, 0).result("x", "IllegalStateException").run(1, 0, 1).run(2, 1, 2).result("x", 2);
    }

    private static void onlyThoseThatAreNotInOthers() {
        Bench b = new Bench();
        b.good("mod A={val x=1;type t=int;mod B={val y=1;};sig S={};};", 1).count(1, 1);
        b.good("mod F=fun(X:{val x:int;}){val y=1;val z=2;};sig S={val x:int;type t;};", 2).count(1, 2);
        // each one counts, also if a later one has its NAME
        b.good("val x=1;val x=1;type t=int;type t=int;sig S={};sig S={};mod A={};mod A={};", 8).count(1, 8);
    }

    private static void theSameTextAgain() {
        Bench b = new Bench().good("sig S={type t;};mod A={type t=int;}:>S;val x=1;", 3);
        for (int i = 0; i < 5; i++) {
            b.type("A.t", 1, "#1").run(500, 1, 2).result("x", 1);
            Bench.due("elaborate again", Bench.answer(b.forge::elaborate), "3");
            b.count(0, 47).count(2, 2).count(3, 0).told("").result("x", "IllegalStateException");
        }
        // THE TEXT stays, and goes on
        b.forge.text(Bench.pack("val y=2;"));
        Bench.due("elaborate with more", Bench.answer(b.forge::elaborate), "4");
        b.count(0, 55).run(500, 1, 3).result("y", 2);
    }

    private static void manyAfterEachOther() {
        Bench b = new Bench();
        for (int i = 0; i < 9; i++) {
            b.good("val x=" + i + ";", 1).run(1, 1, 1).result("x", i);
            b.noProgram("val x=^;");
            b.run(1, 1, 1).result("x", i);
            b.wrong("val x=9;val y=^z;");
            b.wrong("val x=9;val y=^z;");
            b.run(1, 1, 1).result("x", i).value("x", 1, "int");
        }
    }

    private static void nothingOfEarlierOnes() {
        String earlier = "val x=1;type t=int;mod A={val y=1;};sig S={};";
        for (int times = 1; times <= 3; times++) {
            Bench b = new Bench();
            for (String first : new String[] {"val x=1;", "type t=int;", "mod A={val y=1;};", "sig S={};"}) {
                for (int i = 0; i < times; i++) {
                    b.good(first + earlier, 5);
                }
                b.wrong("val y=^x;");
                b.wrong("type u=^t;");
                b.wrong("mod B=^A;");
                b.wrong("mod B={}:>^S;");
                b.good("val z=1;", 1).look(0, "x", "NoSuchElementException").look(1, "t", "NoSuchElementException");
                b.look(2, "A", "NoSuchElementException").matches("A", 'S', "NoSuchElementException");
            }
        }
    }

    /** What a fault leaves behind in the midst of many open parts does not pile up. */
    private static void manyFaultsInTheMidst() {
        Bench b = new Bench();
        for (int i = 0; i < 14; i++) {
            b.wrong("mod A=fun(X:{type t;})fun(Y:{type t;}){mod B={val x=(1,(2,(3,(4,^z))));};};");
            b.noProgram("mod A=fun(X:{type t;})fun(Y:{type t;}){mod B={val x=(1,(2,(3,(4,^;");
        }
        b.good("sig S={type t;};mod A={mod B={val x=(1,(2,(3,(4,(5,6)))));};};val y=A.B.x;", 3).value("y", 6, "(int*(int*(int*(int*(int*int)))))");
    }

    private static void newObjectsApart() {
        Bench a = new Bench().good("sig S={type t;};mod A={type t=int;}:>S;val x=1;type t=int;", 4).run(500, 1, 2).type("t", 1, "int");
        Bench b = new Bench();
        b.count(0, 0).count(1, 0).count(2, 0).count(3, 0).told("").look(0, "x", "IllegalStateException");
        b.noProgram("val^");
        Bench.due("where() of the other", a.forge.where(), ModuleForge.NONE);
        b.good("val x=2;", 1).run(1, 1, 1);
        a.result("x", 1).told("int").count(0, 58).count(2, 2).matches("A", 'S', true);
        b.result("x", 2).matches("A", 'S', "NoSuchElementException");
    }

    private static void fiveHundredAndTwelveCalls() {
        ModuleForge forge = new ModuleForge();
        int calls = 0;
        for (int round = 0; calls + 8 <= 512; round++) {
            int length = 6 + String.valueOf(round).length() + 1;
            Bench.due("clear()", forge.clear(), round == 0 ? 0 : 6 + String.valueOf(round - 1).length() + 1);
            Bench.due("text", forge.text(Bench.pack("val x=")), 6);
            Bench.due("text", forge.text(Bench.pack(round + ";")), length);
            Bench.due("elaborate()", forge.elaborate(), 1);
            Bench.due("run(500)", forge.run(500), 1);
            Bench.due("result(x)", forge.result('x'), round);
            Bench.due("look(0, x)", forge.look(0, 'x'), 1);
            Bench.due("told(0)", forge.told(0), (int) 'i');
            calls += 8;
        }
        Bench.due("calls", calls, 512);
    }
}
