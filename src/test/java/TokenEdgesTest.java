/** The bounds of TOKENS: NUMERALS of one to four digits, words, NAMES of one letter, signs, blanks. */
public final class TokenEdgesTest {
    private static final String SMALL = "abcdefghijklmnopqrstuvwxyz";
    private static final String DIGITS = "0123456789";
    // every word with a PROGRAM in which it is the one that W stands for
    private static final String[][] WORDS = {{"val", "W x=1;"}, {"type", "W t=int;"}, {"mod", "W A={};"}, {"sig", "W S={};"},
        {"fun", "mod A=W(X:{})X;"}, {"int", "type t=W;"}, {"bool", "type t=W;"}, {"true", "val x=W;"}, {"false", "val x=W;"},
        {"if", "val x=W true then 1 else 2;"}, {"then", "val x=if true W 1 else 2;"}, {"else", "val x=if true then 1 W 2;"},
        {"fst", "val x=W(1,2);"}, {"snd", "val x=W(1,2);"}};

    public static void main(String[] args) {
        numeralsOfOneToFourDigits();
        numeralsThatAreTooLong();
        digitsThatFollowEachOther();
        words();
        namesOfOneLetter();
        namesOfTheOtherSize();
        everyCharacter();
        longerSigns();
        atTheEndOfAFullText();
        behindALongerText();
        blanks();
        Bench.end();
    }

    private static void numeralsOfOneToFourDigits() {
        Bench b = new Bench();
        for (String numeral : new String[] {"0", "1", "9", "10", "99", "100", "999", "1000", "9999", "00", "000", "0000", "0009", "0090"}) {
            b.good("val x=" + numeral + ";", 1).run(1, 1, 1).result("x", Integer.parseInt(numeral));
        }
    }

    private static void numeralsThatAreTooLong() {
        Bench b = new Bench();
        for (String numeral : new String[] {"10000", "99999", "00000", "00001", "123456", "2147483648", "1".repeat(233)}) {
            b.noProgram("val x=^" + numeral + ";");
        }
        b.noProgram("val x=9999+^10000-99999;");
        b.noProgram("^10000");
        b.noProgram("val x=^" + "0".repeat(234));
    }

    private static void digitsThatFollowEachOther() {
        Bench b = new Bench();
        b.wrong("val x=9999 ^9999;");
        b.good("val f=\\x:int.x;val y=f1234;", 2).run(3, 1, 3).result("y", 1234);
        b.noProgram("val f=\\x:int.x;val y=f^12345;");
        b.wrong("val y=1;val x=1234^y;");
        b.noProgram("val x=1234^then;");
    }

    private static void words() {
        Bench b = new Bench();
        for (String[] word : WORDS) {
            String w = word[0];
            b.good(word[1].replace("W", w), 1);
            b.noProgram(word[1].replace("W", "^" + w + "x"));
            b.noProgram(word[1].replace("W", "^" + w + w));
            b.noProgram(word[1].replace("W", "^" + w.toUpperCase()));
            b.noProgram(word[1].replace("W", "^" + w.substring(0, 1).toUpperCase() + w.substring(1)));
            if (w.length() > 2) {
                b.noProgram(word[1].replace("W", "^" + w.substring(0, w.length() - 1)));
                b.noProgram(word[1].replace("W", "^" + w.substring(1)));
            }
        }
        b.noProgram("^valx=1;");
        b.noProgram("val x=1;^" + "a".repeat(232));
    }

    private static void namesOfOneLetter() {
        Bench b = new Bench();
        for (int i = 0; i < SMALL.length(); i++) {
            String x = SMALL.substring(i, i + 1);
            String great = x.toUpperCase();
            b.good("val " + x + "=1;type " + x + "=int;val f=\\" + x + ":" + x + "." + x + ";", 3);
            b.value(x, 1 + (x.equals("f") ? 1 : 0), x.equals("f") ? "(int->int)" : "int").type(x, 1, "int");
            b.good("sig " + great + "={};mod " + great + "={}:>" + great + ";", 2).look(2, great, 0).matches(great, great.charAt(0), true);
        }
        b.noProgram("val ^ab=1;");
        b.noProgram("mod ^AB={};");
        b.noProgram("mod ^Ab={};");
        b.noProgram("val ^int=1;");
        b.noProgram("val ^1=1;");
    }

    private static void namesOfTheOtherSize() {
        Bench b = new Bench();
        b.noProgram("val ^A=1;");
        b.noProgram("type ^Z=int;");
        b.noProgram("mod ^a={};");
        b.noProgram("sig ^z={};");
        b.noProgram("val x=\\^X:int.1;");
        b.noProgram("mod F=fun(^x:{}){};");
        b.noProgram("sig S={val ^X:int;};");
        b.noProgram("sig S={type ^T;};");
        b.noProgram("sig S={mod ^a:{};};");
        b.noProgram("mod A=B.^c;");
        b.noProgram("mod A=B(^c);");
        b.noProgram("mod A={}:>^s;");
        b.noProgram("type t=A^;");
        b.noProgram("val x=A^;");
    }

    /** Behind a NUMERAL these go on: a digit, a PART, + - and <; the rest do not, or are no TOKENS. */
    private static void everyCharacter() {
        Bench b = new Bench();
        for (char c = 32; c <= 126; c++) {
            boolean goesOn = " (+-<".indexOf(c) >= 0 || DIGITS.indexOf(c) >= 0 || SMALL.indexOf(Character.toLowerCase(c)) >= 0;
            if (c == ';') {
                b.good("val x=1;", 1);
            } else {
                b.give("val x=1" + c);
                Bench.due("elaborate of val x=1" + c, Bench.answer(b.forge::elaborate), "IllegalArgumentException");
                Bench.due("where of val x=1" + c, b.forge.where(), goesOn ? 8 : 7);
            }
            if (c != ' ') {
                b.give("  " + c);
                Bench.due("elaborate of " + c, Bench.answer(b.forge::elaborate), "IllegalArgumentException");
                Bench.due("where of " + c, b.forge.where(), 2);
            }
        }
    }

    private static void longerSigns() {
        Bench b = new Bench();
        b.good("val x=1==1;mod A={}:>{};type t=int->int;", 3);
        b.noProgram("val x=1^= =1;");
        b.noProgram("mod A={}^: >{};");
        b.noProgram("type t=int^- >int;");
        b.noProgram("val x^==1;");
        b.noProgram("val x=1==^=1;");
        b.noProgram("val x=1==^==1;");
        b.noProgram("sig S={val x^:>int;};");
        b.noProgram("mod A=fun(X^:>{}){};");
        b.noProgram("mod A={}:>^>{};");
        b.noProgram("val x=1^->1;");
        b.noProgram("val x=1-^->1;");
        b.noProgram("type t=int->^>int;");
        b.noProgram("val x=1<^<1;");
        b.noProgram("val x=1<^=1;");
    }

    /** A TOKEN ends where THE TEXT does, also when that is full. */
    private static void atTheEndOfAFullText() {
        Bench b = new Bench();
        for (String[] word : WORDS) {
            for (int letters = 2; letters <= word[0].length(); letters++) {
                String part = word[0].substring(0, letters);
                boolean begins = "val type mod sig".contains(word[0]) && letters == word[0].length();
                String text = " ".repeat(240 - letters);
                b.noProgram(begins ? text + part + "^" : text + "^" + part);
            }
        }
        b.noProgram(" ".repeat(233) + "val x=1^");
        b.noProgram(" ".repeat(230) + "val x=1234^");
        b.noProgram(" ".repeat(229) + "val x=^12345");
        b.noProgram(" ".repeat(232) + "val x=1^=");
        b.noProgram(" ".repeat(231) + "val x=1==^");
        b.noProgram(" ".repeat(231) + "mod A={}^:");
        b.noProgram(" ".repeat(229) + "type t=int^-");
    }

    /** What THE TEXT had before it was cleared does not go on with it. */
    private static void behindALongerText() {
        behind("val x=1;", "^va");
        behind("val x=1;", "val^");
        behind("val x=true;", "val x=^tru");
        behind("val x=1234;", "val x=123^");
        behind("val x=1==1;", "val x=1^=");
        behind("mod A={}:>{};", "mod A={}^:");
        behind("type t=int->int;", "type t=int^-");
        behind("val x=1;val y=2;", "val x=1;val^");
        new Bench().good("val x=1;val y=2;", 2).good("val x=1;", 1).look(0, "y", "NoSuchElementException");
        new Bench().good("val x=12;", 1).good("val x=1;", 1).run(1, 1, 1).result("x", 1);
    }

    private static void behind(String longer, String marked) {
        int bindings = longer.length() - longer.replace(";", "").length();
        new Bench().good(longer, bindings).noProgram(marked);
    }

    private static void blanks() {
        Bench b = new Bench();
        b.good(" ".repeat(240), 0);
        b.good("val x=1;" + " ".repeat(232), 1);
        b.good(" ".repeat(232) + "val x=1;", 1);
        b.good("  val  x  =  \\  y  :  int  .  y  ;  mod  A  =  {  }  :>  {  }  ;  ", 2);
        b.good("val x=if true then(1)else(2);val f=\\x:int.fst(x,x);mod A={type t=int;};type t=A . t;", 4);
        b.noProgram("^v al x=1;");
        b.noProgram("val x=1^= =1;");
        b.wrong("val x=1 ^0;");
    }
}
