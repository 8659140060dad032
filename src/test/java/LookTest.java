/** Promises 6 and 7, look and told. */
public final class LookTest {
    public static void main(String[] args) {
        ordinary();
        texts();
        toldEdges();
        wrongPaths();
        Bench.end();
    }

    private static void ordinary() {
        Bench b = new Bench().good("val x=1;type x=bool;mod A={val x=(1,true);mod B={type t=int->bool;mod C={val y=2;};};};"
                + "mod F=fun(X:{}){val z=1;};mod E={};sig S={};", 6);
        b.value("x", 1, "int").type("x", 1, "bool").value("A.x", 2, "(int*bool)");
        b.type("A.B.t", 2, "(int->bool)").value("A.B.C.y", 1, "int");
        b.look(2, "A", 2).told("").look(2, "A.B", 2).look(2, "A.B.C", 1).look(2, "E", 0).look(2, "F", -1);
        // nothing changes when there is none such
        b.value("A.x", 2, "(int*bool)");
        b.look(0, "y", "NoSuchElementException").look(1, "t", "NoSuchElementException").told("(int*bool)");
        b.look(2, "S", "NoSuchElementException").look(2, "X", "NoSuchElementException").told("(int*bool)");
        b.look(0, "F.z", "NoSuchElementException").look(0, "A.B.x", "NoSuchElementException").told("(int*bool)");
        b.look(1, "A.x", "NoSuchElementException").look(0, "A.B.t", "NoSuchElementException");
        b.look(2, "A.C", "NoSuchElementException").look(2, "B", "NoSuchElementException").look(0, "B.x", "NoSuchElementException");
        b.look(2, "F", -1).told("");
        // the latest is meant, at the end
        b.good("val x=1;val f=\\y:int.x;val x=true;mod A={val y=1;};mod A={val z=1;};", 5);
        b.value("x", 1, "bool").look(0, "A.y", "NoSuchElementException").value("A.z", 1, "int");
        b.look(0, "y", "NoSuchElementException");
    }

    private static void texts() {
        Bench b = new Bench();
        b.good("type a=int->bool->int;type b=(int->bool)->int;type c=int*bool*int;type d=int*(bool*int);type e=a*c->d;", 5);
        b.type("a", 3, "(int->(bool->int))").type("b", 3, "((int->bool)->int)").type("c", 3, "((int*bool)*int)");
        b.type("d", 3, "(int*(bool*int))").type("e", 9, "(((int->(bool->int))*((int*bool)*int))->(int*(bool*int)))");
        String ten = "type a;type b;type c;type d;type e;type f;type g;type h;type i;type j;";
        String is = "type a=int;type b=a;type c=a;type d=a;type e=a;type f=a;type g=a;type h=a;type i=a;type j=a;";
        b.good("sig S={" + ten + "};mod A={" + is + "}:>S;mod B=A:>S;", 3);
        b.type("A.a", 1, "#10").type("A.j", 1, "#19").type("B.j", 1, "#29").count(2, 30);
        b.good("sig S={" + ten + "};" + "sig T=S;".repeat(10) + "mod F=fun(X:S){type t=X.a;};mod G=fun(X:S)X:>S;", 13);
        b.count(2, 140);
        b.good("sig S={" + ten + "};" + "sig S=S;".repeat(9) + "mod A={type a=int;}:>{type a;};type t=A.a*bool->A.a;", 12);
        b.type("t", 3, "((#100*bool)->#100)");
    }

    private static void toldEdges() {
        Bench b = new Bench();
        Bench.due("told(0)", b.forge.told(0), ModuleForge.NONE);
        b.good("val x=true;", 1).value("x", 1, "bool");
        Bench.due("told(3)", b.forge.told(3), (int) 'l');
        Bench.due("told(-2)", b.forge.told(-2), ModuleForge.NONE);
        Bench.due("told(4)", b.forge.told(4), ModuleForge.NONE);
        Bench.due("told of the least", b.forge.told(Integer.MIN_VALUE), ModuleForge.NONE);
        Bench.due("told of the greatest", b.forge.told(Integer.MAX_VALUE), ModuleForge.NONE);
        // thirty LEAVES with the longest texts
        b.good("type a=bool->bool;type b=a->a;type c=b->b->b->a;type d=c->c->a;", 4).look(1, "d", 30);
        b.told("(" + c() + "->(" + c() + "->" + a() + "))");
        Bench.due("the longest text", b.forge.told(-1), 30 * 4 + 29 * 4);
    }

    private static String a() {
        return "(bool->bool)";
    }

    private static String b() {
        return "(" + a() + "->" + a() + ")";
    }

    private static String c() {
        return "(" + b() + "->(" + b() + "->(" + b() + "->" + a() + ")))";
    }

    private static void wrongPaths() {
        Bench b = new Bench().good("mod A={val x=1;type t=int;mod B={val x=1;};};val x=1;type t=int;", 3);
        b.value("A.x", 1, "int");
        for (int what : new int[] {0, 1, 2}) {
            for (String path : new String[] {"", ".", "A.", ".x", "A..x", "Ax", "x.x", "A.x.x", "a.B", "A.B.", "A x", "A .x",
                "1", "A.1", "A.x\u00ff", "\u0001", "A.B.C.D.", "A.B.C.DD"}) {
                b.look(what, path, "IllegalArgumentException");
            }
        }
        // a small NAME is that of no MODULE, a great one that of no VALUE or TYPE
        b.look(0, "A", "IllegalArgumentException").look(1, "A.B", "IllegalArgumentException");
        b.look(2, "x", "IllegalArgumentException").look(2, "A.x", "IllegalArgumentException");
        b.look(-1, "x", "IllegalArgumentException").look(3, "x", "IllegalArgumentException").told("int");
        b.result("A.x.x", "IllegalArgumentException").matches("A.x", 'S', "IllegalArgumentException");
        Bench.due("zeros left out", Bench.answer(() -> b.forge.look(0, 0x4100002E42002E78L)), "1");
        Bench.due("zeros at the end", Bench.answer(() -> b.forge.look(2, 0x412E420000000000L)), "1");
        b.look(0, "A.B.C.x", "NoSuchElementException");
    }
}
