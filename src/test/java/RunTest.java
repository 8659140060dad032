/** Promises 9, 10 and 11: run, result and the STEPS. */
public final class RunTest {
    public static void main(String[] args) {
        values();
        functions();
        modules();
        limits();
        nine();
        many();
        wrapping();
        thrown();
        Bench.end();
    }

    private static void values() {
        Bench b = new Bench().good("val a=7-2-1;val b=2<2;val c=1<2;val d=3==3;val e=if b then 1 else 2;val f=fst(4,snd(5,6));"
                + "val g=snd(4,snd(5,6));val h=0-9999;val i=0012;val j=(1,2);val k=\\x:int.x;val l=true;val m=3==4;", 13);
        b.result("a", "IllegalStateException").run(500, 1, 13);
        b.result("a", 4).result("b", 0).result("c", 1).result("d", 1).result("e", 2).result("f", 4).result("g", 6);
        b.result("h", -9999).result("i", 12).result("l", 1).result("m", 0);
        b.result("j", "UnsupportedOperationException").result("k", "UnsupportedOperationException");
        new Bench().good("", 0).run(0, 1, 0).run(500, 1, 0);
    }

    private static void functions() {
        Bench b = new Bench();
        // what a FUNCTION knows is what was known where it was written
        b.good("val x=1;val f=\\y:int.x+y;val x=10;val z=f x;", 4).run(500, 1, 5).result("z", 11);
        b.good("val f=\\x:int.\\y:int.x-y;val g=f 9;val a=g 2;val b=f 1 2;val c=g 4;", 5).run(500, 1, 10);
        b.result("a", 7).result("b", -1).result("c", 5);
        b.good("val c=\\f:int->int.\\x:int.f(f x);val h=c(c(\\x:int.x+x));val y=h 1;", 3).run(500, 1, 12).result("y", 16);
        // of if only the one that is meant is done
        b.good("val f=\\x:int.x;val y=if true then 1 else f 1;val z=if f 1<f 0 then f(f 2)else 3;", 3).run(500, 1, 5);
        b.result("y", 1).result("z", 3);
        b.good("val p=((\\x:int.x+1),(2,false));val y=(fst p)(fst snd p);val f=\\x:int*int.(snd x,fst x);val z=fst(f(8,9));", 4);
        b.run(500, 1, 6).result("y", 3).result("z", 9);
    }

    private static void modules() {
        Bench b = new Bench();
        b.good("mod A={val x=1;val x=2;mod B={val y=x;val x=5;};val x=x+B.y;};mod B=A.B;val z=A.x+B.x;", 3).run(500, 1, 9);
        b.result("A.x", 4).result("A.B.y", 2).result("B.x", 5).result("z", 9);
        // a SECRET's VALUE is what it is; what is not offered is not there
        b.good("sig S={type t;val x:t;val y:t;val p:t*t;};mod A={type t=bool;val x=true;val y=false;val p=(x,y);val q=1;}:>S;"
                + "mod B={type t=int*int;val x=(1,2);val y=x;val p=(x,y);}:>S;", 3).run(500, 1, 9);
        b.result("A.x", 1).result("A.y", 0).result("A.p", "UnsupportedOperationException");
        b.result("B.x", "UnsupportedOperationException").result("A.q", "NoSuchElementException");
        // each F(A) does the MODULE anew; what X hides is not seen, but is not lost
        b.good("val n=3;mod F=fun(X:{val x:int;}){val n=n+X.x;mod Y=X;};val n=100;mod A={val y=0;val x=4;};mod B=F(A);"
                + "mod C=F(B.Y);val z=B.n+C.n+B.Y.x;", 7).run(500, 1, 15);
        b.result("B.n", 7).result("z", 18).result("B.Y.y", "NoSuchElementException").result("B.Y.x", 4);
        b.good("mod F=fun(X:{val x:int;})fun(Y:{val x:int;}){val z=X.x-Y.x;};mod A={val x=9;};mod B={val x=4;};mod G=F(A);mod C=G(B);"
                + "mod D=G(A);", 6).run(500, 1, 13).result("C.z", 5).result("D.z", 0);
        // a MODULE and a VALUE may have like NAMES, and so may a TYPE
        b.good("mod X={val x=1;};val x=2;type x=int;val y=X.x+x;", 4).run(500, 1, 4).result("y", 3);
    }

    private static void limits() {
        Bench b = new Bench().good("val f=\\x:int.x;type t=int;sig S={};mod A={val x=f 1;type u=t;};mod F=fun(X:S){val y=2;};mod B=F(A);", 6);
        // f, f 1, A.x, A, F, F(A), y, B
        b.run(8, 1, 8).result("B.y", 2).run(7, 0, 7).result("f", "IllegalStateException");
        b.run(0, 0, 0).run(1, 0, 1).run(500, 1, 8).result("A.x", 1);
        // a limit that is not as said leaves the latest RUN alone
        b.run(501, "IllegalArgumentException", 8).run(-1, "IllegalArgumentException", 8).result("A.x", 1);
        b.run(Integer.MIN_VALUE, "IllegalArgumentException", 8).run(Integer.MAX_VALUE, "IllegalArgumentException", 8);
    }

    private static void nine() {
        Bench b = new Bench();
        String f = "val f=\\x:int.x+1;";
        String more = "val f=\\x:int.f x;";
        b.good(f + more.repeat(7) + "val y=f 1;", 9).run(500, 1, 17).result("y", 2);
        // the ninth is a STEP; the BINDING that it is in is not done
        b.good(f + more.repeat(8) + "val y=f 1;val z=1;", 11).run(500, 0, 18).result("f", "IllegalStateException");
        b.run(18, 0, 18).run(17, 0, 17);
        // those that are done, and those that are parts, are not within each other
        b.good(f + "val y=f(f(f(f(f(f(f(f 1)))))));val z=f y+f y+f y+f y+f y+f y+f y+f y+f y+f y;", 3).run(500, 1, 21).result("y", 9);
        // F(A) is under way like a call
        String g = "sig S={val x:int;};mod F=fun(X:S){val x=X.x+1;};";
        String again = "mod F=fun(X:S)F(X);";
        b.good(g + again.repeat(7) + "mod A={val x=1;};mod B=F(A);", 11).run(500, 1, 20).result("B.x", 2);
        b.good(g + again.repeat(8) + "mod A={val x=1;};mod B=F(A);", 12).run(500, 0, 20);
        b.good("val f=\\x:int.x+1;sig S={val x:int;};mod F=fun(X:S){val x=f X.x;};" + again.repeat(6)
                + "mod A={val x=1;};mod B=F(A);", 11).run(500, 1, 20).result("B.x", 2);
        b.good("val f=\\x:int.x+1;sig S={val x:int;};mod F=fun(X:S){val x=f X.x;};" + again.repeat(7)
                + "mod A={val x=1;};mod B=F(A);", 12).run(500, 0, 20);
    }

    private static void many() {
        Bench b = new Bench();
        // 1 + 4 + 16 + 64 + 256 calls, and six BINDINGS with y
        String four = "(f x+f x)+(f x+f x)";
        String text = "val f=\\x:int.x+1;" + ("val f=\\x:int." + four + ";").repeat(4) + "val y=f 1;";
        b.good(text, 6).run(347, 1, 347).result("y", 512).run(346, 0, 346);
        // PAIRS without end, as far as STEPS go
        String pairs = "val f=\\x:int.fst fst(((x,x),(x,x)),((x,x),((x,x),(x,x))));";
        b.good(pairs + "val g=\\x:int.fst(f x)+fst(f x)+fst(f x)+fst(f x);".repeat(1)
                + "val h=\\x:int.g(g(g(g(g(g(g(g x)))))));val y=h 1;", 4).run(500, 1, 45).result("y", 65536);
        b.run(500, 1, 45).run(500, 1, 45).result("y", 65536);
        // 500 STEPS and one more
        b.good("val f=\\x:int.x+1;" + "val f=\\x:int.f(f x);".repeat(7) + "val y=f 1;", 9).run(500, 1, 264).result("y", 129);
        b.good("val f=\\x:int.x+1;" + "val f=\\x:int.f(f x);".repeat(7) + "val y=f 1;val z=f 2;", 10).run(500, 0, 500);
    }

    private static void wrapping() {
        Bench b = new Bench();
        b.good("val d=\\x:int.x+x;val q=\\x:int.d(d(d(d x)));val a=q(q(q(q(q(q(q 8))))));val b=a+a;val c=b-1;val e=b<c;", 6);
        b.run(500, 1, 41).result("a", 1 << 31).result("b", 0).result("c", -1).result("e", 0);
        b.good("val d=\\x:int.x+x;val q=\\x:int.d(d(d(d x)));val a=q(q(q(q(q(q(q 4))))))+q 0;val b=a-1;val c=a<b;val z=b+1==a;", 6);
        b.run(500, 1, 46).result("a", 1 << 30).result("b", (1 << 30) - 1).result("c", 0).result("z", 1);
        b.good("val d=\\x:int.x+x;val q=\\x:int.d(d(d(d x)));val m=q(q(q(q(q(q(q 8))))));val n=m-1;val l=m<n;", 5);
        b.run(500, 1, 40).result("m", Integer.MIN_VALUE).result("n", Integer.MAX_VALUE).result("l", 1);
    }

    private static void thrown() {
        Bench b = new Bench().good("val x=1;mod A={val y=2;};mod F=fun(X:{}){val z=3;};type t=int;", 4);
        b.result("x", "IllegalStateException").result("q", "IllegalStateException").result("A", "IllegalArgumentException");
        b.run(500, 1, 4).result("x", 1).result("q", "NoSuchElementException").result("A.x", "NoSuchElementException");
        b.result("F.z", "NoSuchElementException").result("t", "NoSuchElementException").result("B.x", "NoSuchElementException");
        b.result("A", "IllegalArgumentException").result("", "IllegalArgumentException").result("A.Y", "IllegalArgumentException");
        b.run(3, 0, 3).result("q", "IllegalStateException").result("A", "IllegalArgumentException");
        // neither clear nor text touches the RUN, and looking at a VALUE is another matter
        b.run(4, 1, 4).look(0, "x", 1);
        b.give("val y=2;").result("x", 1).told("int").count(3, 4);
    }
}
