/** The edges of rows: empty ones, what is known from where till where, the latest of several, SPECS twice. */
public final class RowEdgesTest {
    public static void main(String[] args) {
        emptyRows();
        oneAndSeveral();
        notKnownInItself();
        knownFromThereOn();
        tillTheEndOfTheRow();
        parametersTillTheirEnd();
        theLatestIsMeant();
        latestAloneAtItsPlace();
        signaturesAreNoComponents();
        specsTwice();
        sortsApart();
        notOfAStructure();
        newSecretsForEachUse();
        Bench.end();
    }

    private static void emptyRows() {
        Bench b = new Bench();
        b.good("", 0).good("mod A={};", 1).look(2, "A", 0).good("sig S={};", 1).good("mod F=fun(X:{}){};mod A={};mod B=F(A):>{};", 3).look(2, "B", 0);
        b.good("sig S=fun(X:{}){};mod F=fun(X:{})X:>{}:>{};", 2).matches("F", 'S', true);
    }

    /** What the grammar lets stand once alone, and what as often as one likes. */
    private static void oneAndSeveral() {
        Bench b = new Bench();
        b.good("val x=1<2;val y=1==2;", 2);
        b.noProgram("val x=1<2^<3;");
        b.noProgram("val x=1==2^==3;");
        b.noProgram("val x=1<2^==3;");
        b.noProgram("val x=(^);");
        b.good("val x=(1);val y=(1,2);", 2);
        b.noProgram("val x=(1,2^,3);");
        b.good("mod F=fun(X:{})fun(X:{})X;mod A={};mod G=F(A);mod B=G(A);", 4);
        b.noProgram("mod B=F(A)^(A);");
        b.noProgram("mod B=F(^);");
        b.noProgram("mod B=F(F^(A));");
        b.noProgram("mod B=F(A^:>S);");
        b.noProgram("sig S=fun(X:{}^,Y:{}){};");
        b.noProgram("type t=^;");
        b.noProgram("type t=int^:>int;");
        b.noProgram("val x=1;^;");
        b.noProgram("mod A={val x=1^};");
        b.noProgram("mod A={val x=1;}^");
        b.noProgram("sig S={type t^};");
    }

    private static void notKnownInItself() {
        Bench b = new Bench();
        b.wrong("val x=^x;");
        b.wrong("val f=\\y:int.^f y;");
        b.wrong("type t=^t->int;");
        b.wrong("mod A={mod B=^A;};");
        b.wrong("mod F=fun(X:{})^F(X);");
        b.wrong("sig S={mod A:^S;};");
        b.wrong("sig S={val x:^t;type t;};");
        b.wrong("sig S={mod A:{val x:^A.t;};};");
        // an earlier one is meant there
        b.good("val x=1;val x=x+1;val x=x+1;", 3).run(3, 1, 3).result("x", 3);
        b.good("type t=int;type t=t*t;type t=t*t;", 3).type("t", 4, "((int*int)*(int*int))");
        b.good("mod A={};mod A={mod A=A;};mod A={mod A=A;};", 3).look(2, "A.A.A", 0).look(2, "A.A.A.A", "NoSuchElementException");
        b.good("sig S={};sig S={mod A:S;};", 2);
    }

    private static void knownFromThereOn() {
        Bench b = new Bench();
        b.wrong("val x=^y;val y=1;");
        b.wrong("type t=^u;type u=int;");
        b.wrong("mod A=^B;mod B={};");
        b.wrong("mod A={}:>^S;sig S={};");
        b.good("val y=1;val x=y;type u=int;type t=u;mod B={};mod A=B;sig S={};mod C={}:>S;", 8);
        b.good("sig S={type t;val x:t;mod A:{type u=t;val y:t*u;};val z:A.u;};", 1);
        b.wrong("sig S={type t;mod A:{val y:^u;};type u;};");
    }

    private static void tillTheEndOfTheRow() {
        Bench b = new Bench();
        String row = "mod A={val x=1;type t=int;mod B={};sig S={};val y=x;type u=t;mod C=B:>S;};";
        b.good(row, 1);
        b.wrong(row + "val z=^x;");
        b.wrong(row + "type z=^t;");
        b.wrong(row + "mod Z=^B;");
        b.wrong(row + "mod Z={}:>^S;");
        b.good("val x=1;type t=int;mod B={};sig S={};mod A={mod A={mod A={val y=x;type u=t;mod C=B:>S;};};};", 5).look(2, "A.A.A", 3);
        // rows side by side do not know of each other
        b.wrong("mod A={val x=1;};mod B={val y=^x;};");
        b.wrong("sig S={mod A:{type t;};mod B:{val x:^t;};};");
    }

    private static void parametersTillTheirEnd() {
        Bench b = new Bench();
        b.good("val x=true;val f=\\x:int.x+1;val y=if x then 1 else 2;", 3);
        b.wrong("val f=(\\x:int.x,^x);");
        b.wrong("val f=\\x:int.x;val y=^x;");
        b.wrong("mod F=fun(X:{})X;mod A=^X;");
        b.wrong("mod F={mod G=fun(X:{type t;})X;type t=^X.t;};");
        b.wrong("sig S={mod F:fun(X:{type t;}){type u=X.t;};val x:^X.t;};");
        // X is known behind the ), with all :> that follow, but not in its own SIGN
        b.good("mod F=fun(X:{type t;})X:>{type t=X.t;}:>{type t=X.t;};", 1);
        b.wrong("mod F=fun(X:{type t=^X.t;})X;");
        b.wrong("sig S=fun(X:{val x:^X.t;}){};");
        b.good("mod X={val x=1;};mod F=fun(X:{})X;val y=X.x;", 3);
        b.wrong("mod X={val x=1;};mod F=fun(X:{}){val y=X.^x;};");
    }

    private static void theLatestIsMeant() {
        Bench b = new Bench();
        b.good("val x=true;val x=1;val y=x+1;", 3).value("x", 1, "int");
        b.good("type t=bool;type t=int;val f=\\x:t.x+1;", 3).type("t", 1, "int");
        b.good("mod A={};mod A={val x=1;};val y=A.x;", 3).look(2, "A", 1);
        b.good("sig S={val x:int;};sig S={};mod A={}:>S;", 3).matches("A", 'S', true);
        b.good("val x=1;mod A={val x=true;val y=if x then 1 else 2;};val z=x+1;", 3);
        b.wrong("val x=1;val x=true;val y=x^+1;");
    }

    private static void latestAloneAtItsPlace() {
        Bench b = new Bench();
        b.good("mod A={val x=1;val x=true;val x=(1,2);};", 1).look(2, "A", 1).value("A.x", 2, "(int*int)");
        b.good("mod A={type t=int;type t=t*t;};", 1).look(2, "A", 1).type("A.t", 2, "(int*int)");
        b.good("mod A={mod B={val x=1;};mod B={mod C=B;};};", 1).look(2, "A", 1).look(2, "A.B", 1).value("A.B.C.x", 1, "int");
        b.look(0, "A.B.x", "NoSuchElementException");
        // others that speak of an earlier one still mean it
        b.good("mod A={val x=7;val f=\\y:int.x+y;val x=1;};val y=A.f A.x;", 2).run(9, 1, 6).result("y", 8).look(2, "A", 2);
    }

    private static void signaturesAreNoComponents() {
        Bench b = new Bench();
        b.good("mod A={sig S={};sig T={};};", 1).look(2, "A", 0).look(2, "A.S", "NoSuchElementException");
        b.matches("A", 'S', "NoSuchElementException");
        b.wrong("mod A={sig S={};};mod B=A.^S;");
        b.noProgram("mod A={sig S={};};mod B={}:>A^.S;");
        b.good("sig S={};mod A={sig S={val x:int;};};mod B={}:>S;", 3);
    }

    private static void specsTwice() {
        Bench b = new Bench();
        String[] specs = {"val x:int;", "type x;", "type x=int;", "mod X:{};", "mod X:fun(X:{}){};"};
        for (String first : specs) {
            for (String second : specs) {
                String sort = first.substring(0, 3);
                if (second.startsWith(sort)) {
                    String marked = second.replaceFirst(" ", " ^");
                    b.wrong("sig S={" + first + marked + "};");
                    b.wrong("sig S={" + first + "val y:int;type y;mod Y:{};" + marked + "};");
                    b.wrong("sig S={val y:int;mod Z:{" + first + marked + "};};");
                } else {
                    b.good("sig S={" + first + second + "};", 1);
                }
            }
        }
        // in another row the same NAME is another one
        b.good("sig S={type t;val x:t;mod A:{type t;val x:t;mod A:{type t;};};};", 1).count(2, 3);
        b.good("type t=int;sig S={type t;val x:t;};sig S={type t;};", 3);
        b.good("sig S={mod X:fun(X:{type t;}){type t;mod X:{};};};", 1);
    }

    private static void sortsApart() {
        Bench b = new Bench();
        b.good("val x=1;type x=bool;mod X={val x=2;};sig X={val x:int;};val y=x+X.x;val f=\\x:x.x;mod Y=X:>X;", 7);
        b.value("x", 1, "int").type("x", 1, "bool").value("f", 2, "(bool->bool)").matches("X", 'X', true);
        b.wrong("val x=1;type t=^x;");
        b.wrong("type x=int;val y=^x;");
        b.wrong("mod X={};mod Y={}:>^X;");
        b.wrong("sig X={};mod Y=^X;");
        b.wrong("mod A={val x=1;};type t=A.^x;");
        b.wrong("mod A={type x=int;};val y=A.^x;");
    }

    private static void notOfAStructure() {
        Bench b = new Bench();
        String f = "mod F=fun(X:{type t;val x:t;mod A:{};}){type t=int;val x=1;mod A={};};";
        b.wrong(f + "val y=F.^x;");
        b.wrong(f + "type y=F.^t;");
        b.wrong(f + "mod Y=F.^A;");
        b.wrong(f + "mod Y=F.^X;");
        b.wrong(f + "mod B={mod F=F;};val y=B.F.^x;");
        b.wrong(f + "mod B={mod F=F;};mod C=B.F.^A.A;");
        b.wrong("mod G=fun(F:fun(X:{}){val x:int;}){val y=F.^x;};");
    }

    private static void newSecretsForEachUse() {
        Bench b = new Bench();
        b.good("sig S={type t;};mod A={type t=int;}:>S;mod B=A:>S;mod C=A;", 4);
        b.type("A.t", 1, "#1").type("B.t", 1, "#2").type("C.t", 1, "#1").count(2, 3);
        // none is made for what is not HIDDEN
        b.good("sig S={type t=int;val x:t;};mod A={type t=int;val x=1;}:>S:>S:>S;", 2).count(2, 0).type("A.t", 1, "int");
        b.good("sig S=fun(X:{type t;}){type u;};sig T=S;sig U={mod F:T;mod G:S;};", 3).count(2, 2);
        b.good("mod F=fun(X:{}){type t=int;};mod A=F;mod E={};mod B=A(E);mod C=F(E);", 5).count(2, 0);
    }
}
