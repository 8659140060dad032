/** Promises 1 to 11, sentence by sentence: each method says which words decide its answers. */
public final class PromisesTest {
    private static final String ARGUMENT = "IllegalArgumentException";
    private static final String STATE = "IllegalStateException";
    private static final String NO_ELEMENT = "NoSuchElementException";
    private static final String UNSUPPORTED = "UnsupportedOperationException";

    public static void main(String[] args) {
        aNewObject();
        textComesTo();
        textRefused();
        cleared();
        elaborated();
        noProgram();
        wrong();
        theProgramThatWasThereStays();
        whereOfTokens();
        whereOfTheEnd();
        whereOfWrong();
        whereOfTheLatest();
        lookedAt();
        lookRefused();
        toldText();
        toldEmpty();
        toldCharacters();
        matched();
        matchesRefused();
        ran();
        runRefused();
        resulted();
        resultRefused();
        counted();
        countRefused();
        fiveHundredAndTwelveCalls();
        Bench.end();
    }

    private static String text(Bench b, long w) {
        return Bench.answer(() -> b.forge.text(w));
    }

    private static void where(Bench b, int want) {
        Bench.due("where()", b.forge.where(), want);
    }

    /** 1: "An empty TEXT; no PROGRAM." */
    private static void aNewObject() {
        Bench b = new Bench().count(0, 0).count(1, 0).count(2, 0).count(3, 0).told("");
        b.look(0, "x", STATE).matches("A", 'S', STATE).run(0, STATE, 0).result("x", STATE);
        Bench.due("clear()", b.forge.clear(), 0);
        where(b, ModuleForge.NONE);
    }

    /** 2: "The characters in the bytes of w, the highest first, zeros left out, come to THE TEXT: how many it has." */
    private static void textComesTo() {
        Bench b = new Bench();
        Bench.due("text", text(b, Bench.pack("val x=")), "6");
        Bench.due("text of zeros", text(b, 0), "6");
        Bench.due("text with zeros", text(b, 0x3700003800003B00L), "9");
        Bench.due("elaborate()", Bench.answer(b.forge::elaborate), "1");
        b.run(1, 1, 1).result("x", 78);
    }

    /** 2: "IllegalArgumentException if another byte is not as said; IllegalStateException if there would be more than 240; nothing changes then." */
    private static void textRefused() {
        Bench b = new Bench().give("val x=1;".repeat(29) + "val x=");
        Bench.due("31 behind 2", text(b, 0x321FL), ARGUMENT);
        Bench.due("127 before 2", text(b, 0x7F32L), ARGUMENT);
        Bench.due("200", text(b, 200L << 56), ARGUMENT);
        Bench.due("three where two would be", text(b, Bench.pack("12;")), STATE);
        b.count(0, 238);
        Bench.due("two", text(b, Bench.pack("9;")), "240");
        Bench.due("one more", text(b, ' '), STATE);
        Bench.due("elaborate()", Bench.answer(b.forge::elaborate), "30");
        b.run(500, 1, 30).result("x", 9);
    }

    /** 3: "THE TEXT is empty: how many characters it had." */
    private static void cleared() {
        Bench b = new Bench().good("val x=1;", 1);
        Bench.due("clear()", b.forge.clear(), 8);
        b.count(0, 0);
        Bench.due("clear() again", b.forge.clear(), 0);
        // the PROGRAM is not touched
        b.look(0, "x", 1);
        Bench.due("elaborate()", Bench.answer(b.forge::elaborate), "0");
    }

    /** 4: "THE TEXT is read and elaborated: the PROGRAM, not RUN yet, with SECRETS from 0 on: how many BINDINGS (those that are not in others)." */
    private static void elaborated() {
        Bench b = new Bench();
        for (int i = 0; i < 3; i++) {
            b.good("mod A={type t=int;val x=1;mod B={val y=2;};}:>{type t;val x:t;};val y=3;", 2);
            b.count(3, 0).result("y", STATE).type("A.t", 1, "#0").count(2, 1).run(9, 1, 5).result("y", 3);
        }
    }

    /** 4: "IllegalArgumentException if it is no PROGRAM" */
    private static void noProgram() {
        Bench b = new Bench();
        for (String text : new String[] {"val", "x", "val x=1", "val x=$;", "mod A={", "val x=y"}) {
            b.give(text);
            Bench.due("elaborate of " + text, Bench.answer(b.forge::elaborate), ARGUMENT);
        }
    }

    /** 4: "UnsupportedOperationException if something is WRONG" */
    private static void wrong() {
        Bench b = new Bench();
        for (String text : new String[] {"val x=y;", "type t=u;", "mod A=B;", "mod A={}:>{type t;};", "val x=1+true;"}) {
            b.give(text);
            Bench.due("elaborate of " + text, Bench.answer(b.forge::elaborate), UNSUPPORTED);
        }
    }

    /** 4: "the PROGRAM that was there stays then" */
    private static void theProgramThatWasThereStays() {
        for (String text : new String[] {"sig S={type a;type b;};val y=^;", "sig S={type a;type b;};val x=true;mod A={};val y=^z;"}) {
            Bench b = new Bench().good("sig S={type t;};mod A={type t=int;}:>S;val x=1;", 3).run(9, 1, 2).type("A.t", 1, "#1");
            if (text.endsWith("z;")) {
                b.wrong(text);
            } else {
                b.noProgram(text);
            }
            b.told("#1").count(1, 3).count(2, 2).count(3, 2).result("x", 1).value("x", 1, "int").matches("A", 'S', true).run(9, 1, 2).result("x", 1);
        }
    }

    /** 5: "The place of the first TOKEN with which none goes on so (of a character .., of a word that is none, of a NUMERAL ..: its first one" */
    private static void whereOfTokens() {
        Bench b = new Bench();
        b.noProgram("val x ^1;");
        b.noProgram("val x=1;  ^mud A={};");
        b.noProgram("val x= ^#1;");
        b.noProgram("val x= ^whats;");
        b.noProgram("val x= ^31415;");
        b.noProgram("val ^; $ 12345");
    }

    /** 5: "how many characters there are, if the end is missing" */
    private static void whereOfTheEnd() {
        Bench b = new Bench();
        b.noProgram("val^");
        b.noProgram("val x=1  ^");
        b.noProgram("mod A={val x=1;^");
    }

    /** 5: "or that is WRONG" */
    private static void whereOfWrong() {
        Bench b = new Bench();
        b.wrong("val x=1;val y=x ^+true;");
        b.wrong("val x= ^y;val z=w;");
    }

    /** 5: "in the latest elaborate; NONE if there was none" */
    private static void whereOfTheLatest() {
        Bench b = new Bench();
        where(b.give("$"), ModuleForge.NONE);
        b.noProgram("val ^;");
        where(b.give("val x=1;"), 4);
        b.wrong("val x=^y;");
        b.good("val x=1;", 1);
        where(b, ModuleForge.NONE);
    }

    /** 6: "The VALUE (what 0), TYPE (1) or MODULE (2) at a PATH, as the PROGRAM has them at its end, is looked at: how many LEAVES .." */
    private static void lookedAt() {
        Bench b = new Bench().good("val x=1;val x=((1,2),true);type x=int;mod A={val y=1;type t=int->int;mod B={val z=1;val w=1;};};mod F=fun(X:{})X;", 5);
        b.look(0, "x", 3).look(1, "x", 1).look(0, "A.y", 1).look(1, "A.t", 2);
        // "of a MODULE how many COMPONENTS (not those in others), -1 for a FUNCTOR"
        b.look(2, "A", 3).look(2, "A.B", 2).look(2, "F", -1);
    }

    /** 6: "IllegalArgumentException if what or the PATH is not as said; IllegalStateException if there is no PROGRAM; NoSuchElementException .." */
    private static void lookRefused() {
        Bench b = new Bench().look(3, "x", ARGUMENT).look(-1, "x", ARGUMENT).look(0, "x.", ARGUMENT).look(0, "x", STATE).look(1, "t", STATE).look(2, "A", STATE);
        b.good("val x=1;type t=int;mod A={};mod F=fun(X:{val x:int;})X;sig S={};", 5);
        b.look(3, "x", ARGUMENT).look(-1, "x", ARGUMENT).look(0, "", ARGUMENT).look(0, "A.", ARGUMENT).look(2, "A.A.", ARGUMENT);
        b.look(0, "y", NO_ELEMENT).look(0, "t", NO_ELEMENT).look(1, "x", NO_ELEMENT).look(0, "A.x", NO_ELEMENT).look(0, "F.x", NO_ELEMENT);
        b.look(2, "S", NO_ELEMENT).look(2, "A.A", NO_ELEMENT).look(2, "X", NO_ELEMENT);
    }

    /** 7: "The text of the TYPE that was looked at latest ..: int, bool, # and its number for a SECRET, (a->b), (a*b) with the texts of both" */
    private static void toldText() {
        Bench b = new Bench().good("mod A={type t=int;}:>{type t;};type u=(int->A.t)*bool->A.t*A.t;val x=1;", 3);
        b.type("u", 5, "(((int->#0)*bool)->(#0*#0))").value("x", 1, "int").type("A.t", 1, "#0");
        // numbers are as long as they are
        b.good("sig S={type a;type b;type c;type d;type e;};sig S={mod A:S;mod B:S;mod C:S;mod D:S;mod E:S;};"
                + "mod F=fun(X:S)X:>S:>S:>S;mod A={type t=int;}:>{type t;};", 4).type("A.t", 1, "#130");
        b.good("sig S={type a;type b;type c;type d;type e;};sig S={mod A:S;mod B:S;};mod A={type t=int;}:>{type t;};", 3).type("A.t", 1, "#15");
    }

    /** 7: "(without one, or behind a MODULE or another PROGRAM, empty)" */
    private static void toldEmpty() {
        Bench b = new Bench().told("").good("val x=1;mod A={};", 2).told("");
        b.value("x", 1, "int").look(2, "A", 0).told("").value("x", 1, "int").good("val x=1;", 1).told("");
        b.value("x", 1, "int").look(0, "y", NO_ELEMENT).told("int");
    }

    /** 7: "character k of it, with k = -1 how many; NONE for another k" */
    private static void toldCharacters() {
        Bench b = new Bench().good("val x=true;", 1).look(0, "x", 1);
        int[][] due = {{-1, 4}, {0, 'b'}, {1, 'o'}, {2, 'o'}, {3, 'l'}, {4, -2}, {-2, -2}, {5, -2}, {Integer.MIN_VALUE, -2}, {Integer.MAX_VALUE, -2}};
        for (int[] one : due) {
            Bench.due("told(" + one[0] + ")", b.forge.told(one[0]), one[1]);
        }
    }

    /** 8: "Whether the MODULE at a PATH MATCHES what the SIGNATURE with this NAME (A to Z) means, both as at the end of the PROGRAM." */
    private static void matched() {
        Bench b = new Bench().good("sig A={};sig Z={val x:int;};mod A={val x=1;};mod B={mod C=A;};sig S=Z;mod D={};sig S={};", 7);
        b.matches("A", 'Z', true).matches("B", 'Z', false).matches("B.C", 'Z', true).matches("D", 'Z', false).matches("D", 'A', true).matches("D", 'S', true);
        b.good("mod A={};mod A={val x=1;};sig S={};sig S={val x:int;};", 4).matches("A", 'S', true);
    }

    /** 8: "Thrown as by look." */
    private static void matchesRefused() {
        Bench b = new Bench().matches("A", 'S', STATE).matches("A", 's', ARGUMENT).matches("", 'S', ARGUMENT);
        b.good("sig S={};mod A={};val x=1;", 3);
        b.matches("A", '@', ARGUMENT).matches("A", '[', ARGUMENT).matches("A.", 'S', ARGUMENT).matches("A.1", 'S', ARGUMENT);
        b.matches("B", 'S', NO_ELEMENT).matches("A", 'T', NO_ELEMENT).matches("A.A", 'S', NO_ELEMENT).matches("S", 'S', NO_ELEMENT).matches("A", 'A', NO_ELEMENT);
    }

    /** 9: "A RUN with at most limit (0 to 500) STEPS: 1, or 0 if it would need more (or a ninth call came under way)." */
    private static void ran() {
        Bench b = new Bench().good("val x=1;val y=2;", 2).run(0, 0, 0).run(1, 0, 1).run(2, 1, 2).run(3, 1, 2).run(500, 1, 2);
        b.good("val f=\\x:int.x;" + "val f=\\x:int.f x;".repeat(7) + "val x=f 1;", 9).run(500, 1, 17);
        b.good("val f=\\x:int.x;" + "val f=\\x:int.f x;".repeat(8) + "val x=f 1;", 10).run(500, 0, 18);
    }

    /** 9: "IllegalArgumentException for another limit; IllegalStateException if there is no PROGRAM." */
    private static void runRefused() {
        Bench b = new Bench().run(-1, ARGUMENT, 0).run(501, ARGUMENT, 0).run(0, STATE, 0).run(500, STATE, 0);
        b.good("val x=1;", 1).run(1, 1, 1).run(-1, ARGUMENT, 1).run(501, ARGUMENT, 1).result("x", 1);
    }

    /** 10: "The VALUE at a PATH, a number, or 1 for true, 0 for false, by the latest RUN of the PROGRAM." */
    private static void resulted() {
        Bench b = new Bench().good("val x=7-9;val y=true;val z=false;mod A={mod B={val x=5;};};", 4).run(9, 1, 6);
        b.result("x", -2).result("y", 1).result("z", 0).result("A.B.x", 5).run(5, 0, 5).result("x", STATE).run(6, 1, 6).result("x", -2);
    }

    /** 10: "IllegalStateException also if that did not end; UnsupportedOperationException if it is a PAIR or FUNCTION; else thrown as by look." */
    private static void resultRefused() {
        Bench b = new Bench().result("x", STATE).result("", ARGUMENT);
        b.good("val x=1;val p=(1,2);val f=\\x:int.x;mod A={};type t=int;", 5).result("x", STATE).run(3, 0, 3).result("x", STATE).run(4, 1, 4);
        b.result("p", UNSUPPORTED).result("f", UNSUPPORTED).result("x", 1);
        b.result("y", NO_ELEMENT).result("t", NO_ELEMENT).result("A.x", NO_ELEMENT).result("A.", ARGUMENT).result("x.x", ARGUMENT).result("", ARGUMENT);
    }

    /** 11: "What 0: characters of THE TEXT, 1: BINDINGS of the PROGRAM (0 without), 2: SECRETS that came up in it, 3: STEPS of its latest RUN (0 without)." */
    private static void counted() {
        Bench b = new Bench().count(0, 0).count(1, 0).count(2, 0).count(3, 0);
        b.give("val x=1;").count(0, 8).count(1, 0);
        b.good("sig S={type t;};mod A={type t=int;val x=1;}:>S;mod B=A:>{};", 3).count(0, 59).count(1, 3).count(2, 2).count(3, 0);
        b.run(2, 0, 2).count(3, 2).run(500, 1, 3).count(3, 3).give("").count(0, 0).count(1, 3).count(2, 2).count(3, 3);
    }

    /** 11: "IllegalArgumentException for others." */
    private static void countRefused() {
        for (int what : new int[] {-1, 4, Integer.MIN_VALUE, Integer.MAX_VALUE}) {
            new Bench().count(what, ARGUMENT).good("val x=1;", 1).count(what, ARGUMENT);
        }
    }

    /** "An object is used for at most 512 calls after it has been made" */
    private static void fiveHundredAndTwelveCalls() {
        Bench b = new Bench();
        for (int call = 1; call <= 509; call++) {
            Bench.due("call " + call, text(b, call <= 240 ? ' ' : call % 2 == 0 ? 0 : 'x'), call <= 240 ? String.valueOf(call) : call % 2 == 0 ? "240" : STATE);
        }
        Bench.due("call 510", Bench.answer(b.forge::elaborate), "0");
        Bench.due("call 511", b.forge.run(0), 1);
        Bench.due("call 512", b.forge.clear(), 240);
    }
}
