/** The bound of depth: what is 8 deep is read, what is 9 deep is a fault at its first TOKEN. */
public final class DeepEdgesTest {
    // in these @ stands for the one that is 1 deeper, behind a # if that is an earlier one as deep
    private static final String[] EXPR_IN_EXPR = {"(@)", "(@,1)", "(#1,@)", "\\x:#int.@", "if @ then 1 else 1", "if #1 then @ else 1",
        "if #1 then 1 else @", "1+(@)", "(@)-1", "1<(@)", "(@)==1", "1(@)", "1 2(@)", "(@)1"};
    private static final String[] TYPE_IN_TYPE = {"(@)", "int->@", "(@)->int", "int*(@)", "(@)*int", "int*int->@"};
    private static final String[] MODULE_IN_MODULE = {"{mod A=@;}", "fun(X:#{})@", "{val x=#1;mod B=@;}"};
    private static final String[] SIGN_IN_SIGN = {"{mod A:@;}", "fun(X:@){}", "fun(X:#{})@", "{type t;mod A:@;}"};
    private static final String[] EXPR_IN_MODULE = {"{val x=@;}", "{mod A=#{};val x=@;}"};
    private static final String[] TYPE_IN_MODULE = {"{type t=@;}", "{val x=#1;type t=@;}"};
    private static final String[] SIGN_IN_MODULE = {"{sig S=@;}", "fun(X:@){}", "{}:>@", "{}:>#{}:>@", "A:>@", "F(A):>@"};
    private static final String[] TYPE_IN_SIGN = {"{val x:@;}", "{type t=@;}", "{type t;val x:@;}"};
    private static final String[] TYPE_IN_EXPR = {"\\x:@.1"};

    private static final String EXPR = "val x=@;";
    private static final String TYPE = "type t=@;";
    private static final String MODULE = "mod A=@;";
    private static final String SIGN = "sig S=@;";

    private final Bench bench = new Bench();

    public static void main(String[] args) {
        new DeepEdgesTest().all();
        Bench.end();
    }

    private void all() {
        ofOneKind();
        ofTwoKinds();
        ofThreeKinds();
        sideBySide();
        partsBehindTakers();
        exprsBehindTakers();
        takersElsewhere();
        firstToken();
        nothingBehind();
    }

    private static String in(String outer, String inner) {
        return outer.replace("#", "").replace("@", inner);
    }

    /** The mark ^ stands before the first one that is as deep as the inner one. */
    private static String marked(String outer, String inner) {
        return outer.contains("#") ? outer.replace("#", "^").replace("@", inner) : outer.replace("@", "^" + inner);
    }

    /** So many of the wrapping ones around that. */
    private static String wrapped(int count, String wrap, String inner) {
        String all = inner;
        for (int i = 0; i < count; i++) {
            all = in(wrap, all);
        }
        return all;
    }

    /** With that in place of the @ the first is read; the second is a fault at what stands there. */
    private void bound(String eight, String nine, String inner) {
        bench.read(in(eight, inner));
        bench.noProgram(marked(nine, inner));
    }

    /** The inner one within the last wrap, which is within so many outer ones that it is 7, 8 and 9 deep. */
    private void around(String binding, String outer, String last, String inner) {
        bench.read(in(binding, wrapped(6, outer, in(last, inner))));
        bench.read(in(binding, wrapped(7, outer, in(last, inner))));
        bench.noProgram(in(binding, wrapped(8, outer, marked(last, inner))));
    }

    private void ofOneKind() {
        String[][] wraps = {EXPR_IN_EXPR, TYPE_IN_TYPE, MODULE_IN_MODULE, SIGN_IN_SIGN};
        String[] bindings = {EXPR, TYPE, MODULE, SIGN};
        String[] inners = {"1", "int", "{}", "{}"};
        for (int kind = 0; kind < 4; kind++) {
            for (String outer : wraps[kind]) {
                for (String last : wraps[kind]) {
                    around(bindings[kind], outer, last, inners[kind]);
                }
            }
        }
    }

    private void ofTwoKinds() {
        crossed(EXPR, EXPR_IN_EXPR, TYPE_IN_EXPR, "int");
        crossed(MODULE, MODULE_IN_MODULE, EXPR_IN_MODULE, "1");
        crossed(MODULE, MODULE_IN_MODULE, TYPE_IN_MODULE, "int");
        crossed(MODULE, MODULE_IN_MODULE, SIGN_IN_MODULE, "{}");
        crossed(SIGN, SIGN_IN_SIGN, TYPE_IN_SIGN, "int");
    }

    private void crossed(String binding, String[] outers, String[] lasts, String inner) {
        for (String outer : outers) {
            for (String last : lasts) {
                around(binding, outer, last, inner);
            }
        }
    }

    private void ofThreeKinds() {
        String exprs = "{val x=((\\x:@.1));}";
        bound(in(MODULE, wrapped(4, "{mod A=@;}", exprs)), in(MODULE, wrapped(5, "{mod A=@;}", exprs)), "int");
        String signs = "{}:>{mod A:{val x:int->@;};}";
        bound(in(MODULE, wrapped(4, "{mod A=@;}", signs)), in(MODULE, wrapped(5, "{mod A=@;}", signs)), "bool");
    }

    private void sideBySide() {
        bench.good("type t=" + "int*".repeat(29) + "int;", 1).look(1, "t", 30);
        bench.good("val x=" + "1+".repeat(100) + "1;", 1);
        bench.read("val x=" + "1 ".repeat(100) + "1;");
        bench.read("val x=" + "(1)".repeat(60) + ";");
        bench.good("mod A={}" + ":>{}".repeat(50) + ";", 1);
        bench.good("mod A={" + "mod A={};".repeat(20) + "};", 1);
        bench.read("mod A=" + "A.".repeat(80) + "A;");
        bench.read("val x=" + "A.".repeat(80) + "x;");
    }

    private void partsBehindTakers() {
        for (String taker : new String[] {"fst ", "snd "}) {
            bench.read("val x=" + taker.repeat(7) + "1;");
            bound("val x=" + taker.repeat(8) + "@;", "val x=" + taker.repeat(9) + "@;", "1");
            bound("val x=((" + taker.repeat(6) + "@));", "val x=((" + taker.repeat(7) + "@));", "x");
            bound("val x=\\x:int." + taker.repeat(7) + "@;", "val x=\\x:int." + taker.repeat(8) + "@;", "true");
            // what is 9 deep may itself be one with fst or snd
            bench.noProgram("val x=((" + taker.repeat(7) + "^snd 1));");
            bound("val x=" + taker.repeat(8) + "@;", "val x=" + taker.repeat(9) + "@;", "A.B.x");
        }
        bound("val x=" + "fst snd ".repeat(4) + "@;", "val x=snd " + "fst snd ".repeat(4) + "@;", "x");
    }

    private void exprsBehindTakers() {
        bound("val x=" + "fst ".repeat(7) + "(@);", "val x=" + "fst ".repeat(8) + "(@);", "1");
        bound("val x=" + "snd ".repeat(7) + "(1,@);", "val x=" + "snd ".repeat(8) + "(#1,@);", "1");
        bound("val x=" + "snd ".repeat(7) + "(@,1);", "val x=" + "snd ".repeat(8) + "(@,1);", "1");
        bound("val x=fst fst fst(fst fst fst(@,1));", "val x=fst fst fst(fst fst fst(snd @,1));", "1");
        // each of these makes 2 deeper
        bench.read(in(EXPR, wrapped(4, "fst(@)", "1")));
        bench.noProgram(in(EXPR, wrapped(4, "snd(@)", "fst ^(1)")));
    }

    private void takersElsewhere() {
        bench.read("val x=" + "fst 1+".repeat(20) + "1;");
        bench.read("val x=" + "fst 1 ".repeat(20) + "1;");
        bench.read("val x=" + "fst 1 ".repeat(20) + "(1);");
        bench.read("val x=fst fst fst fst 1<snd snd snd snd snd 1;");
    }

    private void firstToken() {
        bench.noProgram("val x=(((((((((^fst 1)))))))));");
        bench.noProgram("val x=(((((((((^\\x:int.x)))))))));");
        bench.noProgram("val x=(((((((((^if 1 then 1 else 1)))))))));");
        bench.noProgram("val x=(((((((((  ^(1))))))))));");
        bench.noProgram("type t=((((((((( ^A.t)))))))));");
        bench.noProgram("type t=(((((((((^(int))))))))));");
        bench.noProgram("mod A=" + "fun(X:{})".repeat(8) + "fun(X:^{})X;");
        bench.noProgram("mod A=" + "fun(X:{})".repeat(8) + "X:>^S;");
        bench.noProgram("mod A=" + "fun(X:S)".repeat(8) + "fun(X:^S)F(X);");
    }

    private void nothingBehind() {
        bench.noProgram("val x=(((((((((^");
        bench.noProgram("val x=((((((((( ^");
        bench.noProgram("val x=(((((((((^;");
        bench.noProgram("val x=(((((((((^)))))))));");
        bench.noProgram("val x=" + "fst ".repeat(9) + "^");
        bench.noProgram("type t=" + "int->".repeat(9) + "^");
        bench.noProgram("mod A=" + "fun(X:{})".repeat(8) + "fun(X:^$");
        // no fault of depth, but another one
        bench.noProgram("val x=((((((((^");
        bench.noProgram("val x=((((((((1)))))))^;");
    }
}
