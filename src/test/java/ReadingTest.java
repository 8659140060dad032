/** Promises 4 and 5: what is no PROGRAM, and where. The mark ^ stands before the place that is due. */
public final class ReadingTest {
    public static void main(String[] args) {
        good();
        tokens();
        bindings();
        modules();
        signs();
        types();
        exprs();
        deep();
        deepBelowTakers();
        Bench.end();
    }

    private static void good() {
        Bench b = new Bench();
        b.good("", 0).good("   ", 0);
        b.good("val x=1;type t=int;mod A={};sig S={};", 4);
        b.good("  val   x=\\y : int . ( y ) ;mod A = { val x = 1 ; mod B = { } :> { } :> { } ; } ;", 2);
        b.good("val f=\\x:int.x;val y=f1;val z=f 12 - 0034;", 3);
        b.good("mod A={type t=int;};val f=\\x:A.t.x;type u=A.t->(A.t*int)*bool->A . t;", 3);
        b.good("mod F=fun(X:fun(Y:{})fun(Z:{type t;}){mod A:{};})fun(X:{})X:>{}:>{};", 1);
        b.good("val x=if 1<2 then fst(1,true)else snd(true,2);val y=(if 1==2 then\\x:int.x else\\x:int.3)4;", 2);
    }

    private static void tokens() {
        Bench b = new Bench();
        b.noProgram("^$");
        b.noProgram("val x=1;^>");
        b.noProgram("val x=^\"1;");
        b.noProgram("val x=^12345;");
        b.noProgram("val x=9999+^00001;");
        b.noProgram("val x=^ab;");
        b.noProgram("^Val x=1;");
        b.noProgram("^vals x=1;");
        b.noProgram("^valx=1;");
        b.noProgram("val x=1;^fa y=1;");
        b.noProgram("mod ^Ab={};");
        b.noProgram("val x=^tru;");
        b.noProgram("val x=^truee;");
        // the longer sign, where it can be
        b.noProgram("val x^==1;");
        b.noProgram("val x=1^->1;");
        b.noProgram("sig S={val x^:>int;};");
        b.noProgram("val x=1==^=1;");
        b.noProgram("val x=1==1;val y=1^=");
        // an earlier TOKEN with which none goes on comes first
        b.noProgram("val x ^1 $$$ 12345 abc");
    }

    private static void bindings() {
        Bench b = new Bench();
        b.noProgram("val^");
        b.noProgram("val  ^");
        b.noProgram("val x^");
        b.noProgram("val x=^");
        b.noProgram("val x=1^");
        b.noProgram("val x=1   ^");
        b.noProgram("val ^X=1;");
        b.noProgram("type ^T=int;");
        b.noProgram("mod ^a={};");
        b.noProgram("sig ^s={};");
        b.noProgram("val ^fst=1;");
        b.noProgram("type ^int=int;");
        b.noProgram("val x^:int;");
        b.noProgram("type t^;");
        b.noProgram("mod A^:{};");
        b.noProgram("val x=1^}");
        b.noProgram("^}");
        b.noProgram("^;");
        b.noProgram("val x=1;^;");
        b.noProgram("^x=1;");
    }

    private static void modules() {
        Bench b = new Bench();
        b.noProgram("mod A=^;");
        b.noProgram("mod A=^a;");
        b.noProgram("mod A=^1;");
        b.noProgram("mod A=^(B);");
        b.noProgram("mod A={val x=1;^;");
        b.noProgram("mod A={val x=1;^");
        b.noProgram("mod A={val x^:int;};");
        b.noProgram("mod A={type t^;};");
        b.noProgram("mod A=B.^b;");
        b.noProgram("mod A=B.^;");
        b.noProgram("mod A=B(^);");
        b.noProgram("mod A=B(^{});");
        b.noProgram("mod A=B(C^;");
        b.noProgram("mod A=B(C)^(D);");
        b.noProgram("mod A=B(C.^c);");
        b.noProgram("mod A=fun ^X:{})X;");
        b.noProgram("mod A=fun(^x:{})X;");
        b.noProgram("mod A=fun(X^)X;");
        b.noProgram("mod A=fun(X:{}^X;");
        b.noProgram("mod A=fun(X:{})^;");
        b.noProgram("mod A={}:>^;");
        b.noProgram("mod A={}:>S^.T;");
        b.noProgram("mod A={}^{};");
    }

    private static void signs() {
        Bench b = new Bench();
        b.noProgram("sig S=^;");
        b.noProgram("sig S=^s;");
        b.noProgram("sig S=T^.U;");
        b.noProgram("sig S=T^(U);");
        b.noProgram("sig S=T^:>U;");
        b.noProgram("sig S={val x^=1;};");
        b.noProgram("sig S={val x^;};");
        b.noProgram("sig S={type t^:int;};");
        b.noProgram("sig S={mod A^={};};");
        b.noProgram("sig S={^sig T={};};");
        b.noProgram("sig S={type t;^");
        b.noProgram("sig S=fun(X:{})^;");
        b.noProgram("sig S=fun(X:{})^(X:{});");
    }

    private static void types() {
        Bench b = new Bench();
        b.noProgram("type t=^;");
        b.noProgram("type t=A^;");
        b.noProgram("type t=A.^;");
        b.noProgram("type t=A.B^;");
        b.noProgram("type t=int*^;");
        b.noProgram("type t=int->^;");
        b.noProgram("type t=int ^int;");
        b.noProgram("type t=(int^;");
        b.noProgram("type t=(^);");
        b.noProgram("type t=^1;");
        b.noProgram("type t=^true;");
        b.noProgram("type t=int^,int;");
        b.noProgram("type t=int^.t;");
    }

    private static void exprs() {
        Bench b = new Bench();
        b.noProgram("val x=^-1;");
        b.noProgram("val x=1+^;");
        b.noProgram("val x=1+^+1;");
        b.noProgram("val x=1^*1;");
        b.noProgram("val x=1<2^<3;");
        b.noProgram("val x=1==2^<3;");
        b.noProgram("val x=1+^\\y:int.y;");
        b.noProgram("val x=1+^if true then 1 else 2;");
        b.noProgram("val x=1^if;");
        b.noProgram("val x=if 1^;");
        b.noProgram("val x=if true then 1^;");
        b.noProgram("val x=if true then 1 else^;");
        b.noProgram("val x=^then;");
        b.noProgram("val x=\\^X:int.1;");
        b.noProgram("val x=\\x^.1;");
        b.noProgram("val x=\\x:int^1;");
        b.noProgram("val x=\\x:^1.1;");
        b.noProgram("val x=A^;");
        b.noProgram("val x=A.^;");
        b.noProgram("val x=A.B^+1;");
        b.noProgram("val x=A.b^.c;");
        b.noProgram("val x=(^);");
        b.noProgram("val x=(1^;");
        b.noProgram("val x=(1,^);");
        b.noProgram("val x=(1,2^,3);");
        b.noProgram("val x=fst^;");
        b.noProgram("val x=fst ^\\x:int.x;");
        b.noProgram("val x=^int;");
        b.noProgram("val x=^{};");
    }

    private static void deep() {
        Bench b = new Bench();
        b.good("val x=((((((((1))))))));", 1);
        b.noProgram("val x=(((((((((^1)))))))));");
        b.noProgram("val x=(((((((((^;");
        b.noProgram("val x=(((((((((^");
        b.good("type t=((((((((int))))))));", 1);
        b.noProgram("type t=(((((((((^int)))))))));");
        b.good("type t=int->int->int->int->int->int->int->int->int;", 1);
        b.noProgram("type t=int->int->int->int->int->int->int->int->int->^int;");
        b.good("val x=(1,(1,(1,(1,(1,(1,(1,(1,1))))))));", 1);
        b.noProgram("val x=(1,(1,(1,(1,(1,(1,(1,(1,(^1,1)))))))));");
        // all that stands side by side is as deep
        b.good("type t=int*int*int*int*int*int*int*int*int*int*int;val x=1+1+1+1+1+1+1+1+1+1+1-1-1<1;", 2);
        b.good("mod A={mod A={mod A={mod A={mod A={mod A={mod A={mod A={};};};};};};};};", 1);
        b.good("mod A={mod A={mod A={mod A={mod A={mod A={mod A={mod A={val x=1;};};};};};};};};", 1);
        b.noProgram("mod A={mod A={mod A={mod A={mod A={mod A={mod A={mod A={val x=(^1);};};};};};};};};");
        b.noProgram("mod A={mod A={mod A={mod A={mod A={mod A={mod A={mod A={mod A={mod A=^{};};};};};};};};};};");
        b.noProgram("sig A={mod A:{mod A:{mod A:{mod A:{mod A:{mod A:{mod A:{mod A:{mod A:^{};};};};};};};};};};");
        b.good("mod A=fun(X:{})fun(X:{})fun(X:{})fun(X:{})fun(X:{})fun(X:{})fun(X:{}){};", 1);
        b.noProgram("mod A=fun(X:{})fun(X:{})fun(X:{})fun(X:{})fun(X:{})fun(X:{})fun(X:{})fun(X:{})fun(X:^{}){};");
        b.good("mod A=fun(X:{})fun(X:{})fun(X:{})fun(X:{})fun(X:{})fun(X:{})fun(X:{})X:>{}:>{};", 1);
        b.noProgram("mod A=fun(X:{})fun(X:{})fun(X:{})fun(X:{})fun(X:{})fun(X:{})fun(X:{})fun(X:{})X:>^{};");
        b.noProgram("val x=if if if if if if if if if ^true then true else true;");
        b.noProgram("val f=\\a:int.\\a:int.\\a:int.\\a:int.\\a:int.\\a:int.\\a:int.\\a:int.\\a:^int.a;");
    }

    private static void deepBelowTakers() {
        Bench b = new Bench();
        String eight = "fst fst fst fst snd snd snd snd ";
        b.wrong("val x=fst fst fst fst snd snd snd ^snd 1;");
        b.noProgram("val x=" + eight + "fst ^1;");
        b.noProgram("val x=" + eight + "(^1);");
        b.noProgram("val x=1+" + eight + "snd ^1;");
        // those before other parts do not count
        b.wrong("val x=1+fst fst fst fst ^fst 1+(1)+fst fst fst fst fst 1;");
        b.noProgram("val x=fst(fst(fst(fst(fst ^1))));");
        b.wrong("val x=fst(fst(fst(^fst 1)));");
    }
}
