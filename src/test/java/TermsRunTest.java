/**
 * Section Terms, sentence by sentence: RUNS, STEPS, VALUES, and PATHS to look at. Each method says which words
 * decide its answers.
 */
public final class TermsRunTest {
    public static void main(String[] args) {
        bindingsInOrder();
        bindingsAreSteps();
        asOftenAsRowsAreDone();
        callsAreSteps();
        applicationsAreSteps();
        underWayTillDone();
        applicationsUnderWay();
        theNinth();
        theNinthIsAStep();
        asTheLimitDoes();
        numbersWrap();
        truths();
        pairs();
        functions();
        allPartsFromTheLeft();
        onlyTheOneThatIsMeant();
        pathsAreBytes();
        pathsAsInTheText();
        none();
        Bench.end();
    }

    /** So many calls within each other when x is done. */
    private static String calls(int count) {
        return "val f=\\x:int.x+1;" + "val f=\\x:int.f x;".repeat(count - 1) + "val x=f 1;";
    }

    private static String applications(int count) {
        return "sig S={val x:int;};mod F=fun(X:S){val x=X.x+1;};" + "mod F=fun(X:S)F(X);".repeat(count - 1) + "mod A={val x=1;};mod B=F(A);";
    }

    /** "A RUN does the BINDINGS in order." */
    private static void bindingsInOrder() {
        new Bench().good("val x=1;val y=x+1;val x=y+y;val y=x-1;mod A={val x=x+10;val y=x+10;};", 5).run(9, 1, 7)
                .result("x", 4).result("y", 3).result("A.x", 14).result("A.y", 24);
    }

    /** "STEPS are: each BINDING val or mod that is done" */
    private static void bindingsAreSteps() {
        Bench b = new Bench().good("", 0).run(0, 1, 0).good("val x=1;", 1).run(1, 1, 1).run(0, 0, 0).good("mod A={};", 1).run(1, 1, 1).run(0, 0, 0);
        b.good("val x=1;val x=2;mod A={};", 3).run(3, 1, 3).run(2, 0, 2);
        // type and sig are none
        b.good("type t=int;sig S={val x:int;mod A:{};};", 2).run(0, 1, 0);
    }

    /** "(also in rows in { } as often as these are done)" */
    private static void asOftenAsRowsAreDone() {
        Bench b = new Bench().good("mod A={val x=1;mod B={val y=2;};};", 1).run(9, 1, 4);
        // F alone, then A, and for each F(A) itself, x, y and the MODULE
        String f = "mod F=fun(X:{}){val x=1;val y=2;};";
        b.good(f, 1).run(9, 1, 1).good(f + "mod A={};", 2).run(9, 1, 2).good(f + "mod A={};mod B=F(A);mod C=F(A);", 4).run(99, 1, 10);
    }

    /** "each call of a FUNCTION" */
    private static void callsAreSteps() {
        Bench b = new Bench().good("val f=\\x:int.x;", 1).run(9, 1, 1).good("val f=\\x:int.x;val y=f 1+f(f 2);", 2).run(9, 1, 5);
        b.good("val f=\\x:int.\\y:int.x;val y=f 1 2;", 2).run(9, 1, 4);
    }

    /** "each F ( A )" */
    private static void applicationsAreSteps() {
        new Bench().good("mod F=fun(X:{})X;mod A={};mod B=A;", 3).run(9, 1, 3).good("mod F=fun(X:{})X;mod A={};mod B=F(A);", 3).run(9, 1, 4).run(3, 0, 3);
    }

    /** "A call .. is under way till its EXPR .. is done" */
    private static void underWayTillDone() {
        Bench b = new Bench().good(calls(8), 9).run(500, 1, 17).result("x", 2);
        // one behind the other, and one as a part of the other, are not within each other
        b.good("val f=\\x:int.x+1;val x=f(f(f(f(f(f(f(f(f 0))))))));", 2).run(500, 1, 11).result("x", 9);
        b.good("val f=\\x:int.x+1;val x=f 1+f 1+f 1+f 1+f 1+f 1+f 1+f 1+f 1+f 1;", 2).run(500, 1, 12).result("x", 20);
    }

    /** "or F ( A ) is under way till its .. MODULE is done" */
    private static void applicationsUnderWay() {
        Bench b = new Bench().good(applications(8), 11).run(500, 1, 20).result("B.x", 2).good(applications(9), 12).run(500, 0, 20);
        // calls and F(A) are counted together
        b.good("val f=\\x:int.x;" + applications(7).replace("X.x+1", "f X.x"), 11).run(500, 1, 20).result("B.x", 1);
        b.good("val f=\\x:int.x;" + applications(8).replace("X.x+1", "f X.x"), 12).run(500, 0, 20);
    }

    /** "with 8 under way within each other a ninth .. ends the RUN" */
    private static void theNinth() {
        new Bench().good(calls(8), 9).run(500, 1, 17).good(calls(9), 10).run(500, 0, 18).result("x", "IllegalStateException");
    }

    /** "a ninth, which is a STEP" */
    private static void theNinthIsAStep() {
        // nine BINDINGS f, eight calls and the ninth
        new Bench().good(calls(9), 10).run(500, 0, 18).run(18, 0, 18).run(17, 0, 17);
    }

    /** "as the limit does" */
    private static void asTheLimitDoes() {
        Bench b = new Bench().good(calls(9) + "val y=1;", 11).run(500, 0, 18).result("y", "IllegalStateException").result("f", "IllegalStateException");
        b.good("val x=1;val y=1;", 2).run(1, 0, 1).result("x", "IllegalStateException");
    }

    /** "VALUES are numbers (INTS, wrapping)" */
    private static void numbersWrap() {
        Bench b = new Bench().good("val d=\\x:int.x+x;val q=\\x:int.d(d(d(d x)));val m=q(q(q(q(q(q(q 8))))));val n=m-1;val z=m+m;val o=0-1;", 6);
        b.run(500, 1, 41).result("m", Integer.MIN_VALUE).result("n", Integer.MAX_VALUE).result("z", 0).result("o", -1);
    }

    /** "truths" */
    private static void truths() {
        new Bench().good("val a=true;val b=false;val c=1<2;val d=2<2;val e=2==2;val f=1==2;", 6).run(9, 1, 6)
                .result("a", 1).result("b", 0).result("c", 1).result("d", 0).result("e", 1).result("f", 0);
    }

    /** "PAIRS" */
    private static void pairs() {
        new Bench().good("val p=(1,(2,3));val q=(snd p,fst p);val x=fst p;val y=fst snd p;val z=snd snd p;val w=snd q;", 6).run(9, 1, 6)
                .result("x", 1).result("y", 2).result("z", 3).result("w", 1).result("p", "UnsupportedOperationException");
    }

    /** "FUNCTIONS" */
    private static void functions() {
        // each knows what was known where it was written
        Bench b = new Bench().good("val n=1;val f=\\x:int.x+n;val n=50;val g=\\f:int->int.f(f n);val x=g f;val h=\\x:int.\\y:int.x-y;val k=h 9;val y=k 2;", 8);
        b.run(99, 1, 13).result("x", 52).result("y", 7).result("k", "UnsupportedOperationException");
    }

    /** "all parts are done, from the left" */
    private static void allPartsFromTheLeft() {
        Bench b = new Bench();
        // the second of the PAIR is done, though nobody asks for it
        b.good("val f=\\x:int.x;val x=fst(1,f 2);", 2).run(9, 1, 3);
        // a ninth call ends the RUN within g; f, which has eight, is done if it stands to the left
        String eight = "val f=\\x:int.x;" + "val f=\\x:int.f x;".repeat(7);
        b.good(eight + "val g=\\x:int.f x;val x=(g 1,f 1);", 10).run(500, 0, 18);
        b.good(eight + "val g=\\x:int.f x;val x=(f 1,g 1);", 10).run(500, 0, 26);
        b.good(eight + "val g=\\x:int.f x;val x=f 1+g 1;", 10).run(500, 0, 26);
        b.good(eight + "val g=\\x:int.f x;val x=g 1<f 1;", 10).run(500, 0, 18);
    }

    /** "but of if only the one that is meant" */
    private static void onlyTheOneThatIsMeant() {
        Bench b = new Bench().good("val f=\\x:int.x;val x=if true then 1 else f 2;val y=if false then f 1 else 2;", 3).run(9, 1, 3).result("x", 1).result("y", 2);
        b.good("val f=\\x:int.x;val x=if f 1<f 2 then f 3 else f(f 4);", 2).run(9, 1, 5).result("x", 3);
    }

    /** "A PATH to look at is bytes, the highest first, zeros left out" */
    private static void pathsAreBytes() {
        Bench b = new Bench().good("mod A={mod B={val x=(1,2);};};mod B={mod A={val x=1;};};", 2);
        Bench.due("A.B.x", b.forge.look(0, 0x412E422E78L), 2);
        Bench.due("A.B.x with zeros behind", b.forge.look(0, 0x412E422E78000000L), 2);
        Bench.due("A.B.x with zeros between", b.forge.look(0, 0x41002E422E000078L), 2);
        Bench.due("B.A.x", b.forge.look(0, 0x422E412E78L), 1);
        Bench.due("nothing but zeros", Bench.answer(() -> b.forge.look(0, 0)), "IllegalArgumentException");
    }

    /** "X . Y . y or X . Y as in THE TEXT, without blanks" */
    private static void pathsAsInTheText() {
        Bench b = new Bench().good("val x=1;mod A={val x=1;mod B={val x=1;type t=int;mod C={};};};", 2);
        b.look(0, "x", 1).look(0, "A.x", 1).look(0, "A.B.x", 1).look(1, "A.B.t", 1).look(2, "A", 2).look(2, "A.B", 3).look(2, "A.B.C", 0);
        for (String path : new String[] {"A .x", "A. x", " x", "x ", "A.", ".x", "Ax", "x.A", "A.x.x", "A..x", "A,x", "1", "int"}) {
            b.look(0, path, "IllegalArgumentException");
        }
    }

    /** "NONE = -2: The text of a TYPE ends before that." */
    private static void none() {
        Bench.due("NONE", ModuleForge.NONE, -2);
        Bench b = new Bench().good("val x=1;", 1).look(0, "x", 1);
        Bench.due("told(2)", b.forge.told(2), (int) 't');
        Bench.due("told(3)", b.forge.told(3), ModuleForge.NONE);
    }
}
