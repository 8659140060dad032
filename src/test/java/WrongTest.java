/** Promises 4 and 5: what is WRONG, and where. The mark ^ stands before the TOKEN that is due. */
public final class WrongTest {
    public static void main(String[] args) {
        names();
        paths();
        exprs();
        specs();
        sealing();
        functors();
        order();
        Bench.end();
    }

    private static void names() {
        Bench b = new Bench();
        b.wrong("val x=^y;");
        b.wrong("val x=^x;");
        b.wrong("type t=^t;");
        b.wrong("mod A=^A;");
        b.wrong("sig S=^S;");
        b.wrong("mod A={}:>^A;");
        b.wrong("sig S={};mod A=^S;");
        b.wrong("val t=1;type u=^t;");
        b.wrong("type t=int;val x=^t;");
        b.wrong("val f=\\x:int.x;val y=^x;");
        b.wrong("mod A={val x=1;type t=int;sig S={};};val y=^x;");
        b.wrong("mod A={val x=1;type t=int;sig S={};};type y=^t;");
        b.wrong("mod A={val x=1;type t=int;sig S={};};mod B={}:>^S;");
        b.wrong("sig S={type t;val x:t;};val f=\\x:^t.x;");
        b.wrong("mod F=fun(X:{type t;}){};type t=^X.t;");
        b.wrong("sig S={val x:^t;type t;};");
        b.wrong("sig S=fun(X:{type t;}){type u=X.t;};sig T={val x:^X.t;};");
        // a row in another knows what that knew, and what is bound anew there is meant there alone
        b.good("val x=1;mod A={val y=x+1;val x=true;val z=if x then 1 else 2;};val z=x+1;", 3);
        b.good("type t=int;mod A={type t=bool;val f=\\x:t.if x then 1 else 2;};val f=\\x:t.x+1;", 3);
        b.good("val x=true;val x=1;val y=x+1;", 3);
    }

    private static void paths() {
        Bench b = new Bench();
        String a = "mod A={val x=1;type t=int;mod B={val y=2;};};";
        b.wrong(a + "val z=A.^y;");
        b.wrong(a + "val z=A.^t;");
        b.wrong(a + "type z=A.^x;");
        b.wrong(a + "val z=A.B.^x;");
        b.wrong(a + "val z=A.^C.x;");
        b.wrong(a + "val z=^C.B.x;");
        b.wrong(a + "mod C=A.^A;");
        b.wrong(a + "mod C=A.B.^B;");
        b.wrong("mod F=fun(X:{}){val x=1;};val z=F.^x;");
        b.wrong("mod F=fun(X:{}){type t=int;};type z=F.^t;");
        b.wrong("mod F=fun(X:{}){mod A={};};mod B=F.^A;");
        b.wrong("mod A={sig S={};};mod B={}:>^S;");
        b.good(a + "val z=A.B.y+A.x;type u=A.t;mod C=A.B;val w=C.y;", 5);
    }

    private static void exprs() {
        Bench b = new Bench();
        b.wrong("val x=1^+true;");
        b.wrong("val x=true^-1;");
        b.wrong("val x=1+2^+true+3;");
        b.wrong("val x=(1,2)^+1;");
        b.wrong("val x=true^<1;");
        b.wrong("val x=true^==true;");
        b.wrong("val x=(1<2)^==(1<2);");
        b.wrong("val x=^if 1 then 1 else 2;");
        b.wrong("val x=^if true then 1 else true;");
        b.wrong("val x=if true then 1 else ^if true then 1 else false;");
        b.wrong("val x=^fst 1;");
        b.wrong("val x=^fst snd(1,2);");
        b.wrong("val f=\\x:int.x;val y=f ^true;");
        b.wrong("val f=\\x:int.x;val y=f ^(1,2);");
        b.wrong("val f=\\x:int.x;val y=f 1 ^2;");
        b.wrong("val y=1 ^2;");
        b.wrong("val y=true ^fst(1,2);");
        b.wrong("mod A={val x=1;};val y=2 ^A.x;");
        b.wrong("val f=\\x:int*int.x;val y=f(1,2)^+1;");
        b.wrong("val f=\\x:int->int.x;val g=f ^(\\x:bool.x);");
        b.good("val f=\\x:int->int.x 1;val g=f(\\y:int.y)+f(\\y:int.2);", 2);
        b.good("val x=(1,(true,2));val y=fst x+snd snd x;val z=if fst snd x then 1<2 else 1==2;", 3);
        // * and calls group to the left, -> to the right
        b.good("val f=\\p:int*bool*int.if snd fst p then fst fst p else snd p;val x=f((1,true),2);", 2);
        b.wrong("val f=\\p:int*bool*int.p;val x=f ^(1,(true,2));");
        b.good("val f=\\g:int->int->int.g 1 2;val x=f(\\a:int.\\b:int.a-b);", 2);
    }

    private static void specs() {
        Bench b = new Bench();
        b.wrong("sig S={val x:int;val ^x:int;};");
        b.wrong("sig S={type t;type ^t;};");
        b.wrong("sig S={type t;type ^t=int;};");
        b.wrong("sig S={mod A:{};mod ^A:{};};");
        b.wrong("sig S={mod A:{type t;};type t;mod ^A:{};};");
        // sorts do not touch each other, nor do rows
        b.good("sig S={type t;val t:t;mod T:{type t;val t:t;};};", 1);
        b.good("type t=int;sig S={type t;};", 2);
        // the parts of a SPEC come before it
        b.wrong("sig S={val x:int;val x:^t;};");
        b.wrong("sig S={mod A:{};mod A:^T;};");
    }

    private static void sealing() {
        Bench b = new Bench();
        String s = "sig S={type t;val x:t;};";
        b.wrong(s + "mod A={type t=int;}^:>S;");
        b.wrong(s + "mod A={val x=1;}^:>S;");
        b.wrong(s + "mod A={type t=int;val x=true;}^:>S;");
        b.wrong(s + "mod A={type t=int;val x=1;}:>S^:>{val x:int;};");
        b.wrong(s + "mod A={type t=int;val x=1;}:>S;val y=A.x^+1;");
        b.wrong(s + "mod A={type t=int;val x=1;}:>S;mod B=A:>S;val y=^if true then A.x else B.x;");
        b.wrong(s + "mod A=fun(X:S)X^:>{type t=int;};");
        b.wrong("mod A={}^:>fun(X:{}){};");
        b.wrong("mod A=fun(X:{})X;mod B=A^:>{};");
        b.wrong("mod A={val t=1;}^:>{type t;};");
        b.wrong("mod A={mod B=fun(X:{})X;}^:>{mod B:{};};");
        b.wrong("mod A={type t=int;}:>{type t;}^:>{type t=int;};");
        // MODULE, then SIGN, then :>
        b.wrong("mod A={val x=^y;}:>S;");
        b.wrong("mod A={}:>^S;");
        b.good(s + "mod A={type t=int;val x=1;val y=2;}:>S;mod B=A;val z=if true then A.x else B.x;", 4);
    }

    private static void functors() {
        Bench b = new Bench();
        String f = "sig S={type t;val x:t;};mod F=fun(X:S){val y=X.x;};mod A={type t=int;val x=1;};";
        b.good(f + "mod B=F(A);val z=B.y+1;", 5);
        b.wrong(f + "mod B=A^(F);");
        b.wrong(f + "mod B=F^(F);");
        b.wrong(f + "mod C={type t=int;};mod B=F^(C);");
        b.wrong(f + "mod B=F(^C);");
        b.wrong(f + "mod B=^C(D);");
        b.wrong(f + "mod B=A(^C);");
        b.wrong(f + "mod B=F(A.^C);");
        b.wrong(f + "mod B=F(A);val z=B.^x;");
        b.wrong("sig S={type t;val x:t;};mod F=fun(X:S){val y=X.x^+1;};");
        b.wrong("sig S={type t;};mod F=fun(X:S)X:>S;mod A={type t=int;};mod B=F(A);mod C=F(A);"
                + "val f=\\x:B.t.x;val g=\\x:C.t.f ^x;");
        b.good("sig S={type t;};mod F=fun(X:S)X;mod A={type t=int;};mod B=F(A);mod C=F(A);"
                + "val f=\\x:B.t.x;val g=\\x:C.t.f x+1;", 7);
    }

    private static void order() {
        Bench b = new Bench();
        b.wrong("val x=^if 1 then 2 else true;");
        b.wrong("val x=if 1^+true then 2 else y;");
        b.wrong("val x=if 1 then 2 else ^y;");
        b.wrong("val x=1 ^2+true;");
        b.wrong("val x=(^fst 1)(true+1);");
        b.wrong("val x=1(true^+1);");
        b.wrong("val f=\\x:^t.y;");
        b.wrong("val f=\\x:int.^y;");
        b.wrong("type t=int;val x=^y;type u=v;");
        // no PROGRAM at all comes before all that is WRONG
        b.noProgram("val x=y+z;val y=1^");
    }
}
