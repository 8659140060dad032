/** The bounds of promises 2 and 3: 240 characters, the bytes 32 to 126, zeros, the empty TEXT. */
public final class TextEdgesTest {
    private static final String ILLEGAL_ARGUMENT = "IllegalArgumentException";
    private static final String ILLEGAL_STATE = "IllegalStateException";

    public static void main(String[] args) {
        everyByteAtEveryPlace();
        bytesThatAreRefused();
        highestFirst();
        zerosLeftOut();
        upTo240();
        moreThan240();
        bothReasons();
        clearOfAllLengths();
        clearLeavesTheRest();
        Bench.end();
    }

    private static void text(Bench b, long w, Object want) {
        Bench.due("text(" + w + ")", Bench.answer(() -> b.forge.text(w)), String.valueOf(want));
    }

    /** An object with a TEXT of so many characters. */
    private static Bench with(int characters) {
        return new Bench().give("x".repeat(characters));
    }

    private static void everyByteAtEveryPlace() {
        for (int place = 0; place < 8; place++) {
            Bench b = new Bench();
            for (int c = 1; c <= 255; c++) {
                boolean good = c >= 32 && c <= 126;
                text(b, (long) c << 8 * place, good ? 1 : ILLEGAL_ARGUMENT);
                Bench.due("clear() behind byte " + c, b.forge.clear(), good ? 1 : 0);
            }
        }
    }

    private static void bytesThatAreRefused() {
        for (int c : new int[] {1, 31, 127, 128, 255}) {
            for (int place = 0; place < 8; place++) {
                // the other seven are as said
                long w = Bench.pack("val x=1;") & ~(255L << 8 * place) | (long) c << 8 * place;
                Bench.refused("byte " + c + " at " + place, Stories::begun, f -> f.text(w), ILLEGAL_ARGUMENT);
            }
            long alone = c;
            Stories.refusedAlways("byte " + c, f -> f.text(alone), ILLEGAL_ARGUMENT);
        }
        Stories.refusedAlways("text(-1)", f -> f.text(-1), ILLEGAL_ARGUMENT);
        Stories.refusedAlways("text of the least", f -> f.text(Long.MIN_VALUE), ILLEGAL_ARGUMENT);
        Stories.refusedAlways("text of the greatest", f -> f.text(Long.MAX_VALUE), ILLEGAL_ARGUMENT);
    }

    private static void highestFirst() {
        Bench b = new Bench();
        text(b, 0x76616C20783D353BL, 8);
        Bench.due("elaborate", Bench.answer(b.forge::elaborate), "1");
        b.run(1, 1, 1).result("x", 5);
    }

    private static void zerosLeftOut() {
        Bench b = new Bench();
        text(b, 0, 0);
        text(b, 0x7600610000006C00L, 3);
        text(b, 0x2000000000000000L, 4);
        text(b, 0x78, 5);
        text(b, 0, 5);
        text(b, 0x003D003500003B00L, 8);
        Bench.due("elaborate", Bench.answer(b.forge::elaborate), "1");
        b.count(0, 8).run(1, 1, 1).result("x", 5);
    }

    private static void upTo240() {
        for (int coming = 1; coming <= 8; coming++) {
            text(with(239 - coming), Bench.pack("abcdefgh".substring(0, coming)), 239);
            text(with(240 - coming), Bench.pack("abcdefgh".substring(0, coming)), 240);
        }
        Bench b = with(240);
        text(b, 0, 240);
        b.count(0, 240);
    }

    private static void moreThan240() {
        for (int had = 233; had <= 240; had++) {
            int characters = had;
            for (int coming = 241 - had; coming <= 8; coming++) {
                long w = Bench.pack("val x=1;".substring(0, coming));
                Bench.refused(coming + " characters behind " + had, b -> b.give("val x=1;" + " ".repeat(characters - 8)),
                        f -> f.text(w), ILLEGAL_STATE);
            }
        }
        // one that is refused does not keep out one that has room
        Bench b = with(236);
        text(b, Bench.pack("abcde"), ILLEGAL_STATE);
        text(b, Bench.pack("abcd"), 240);
        text(b, 'e', ILLEGAL_STATE);
        b.forge.clear();
        text(b, 'e', 1);
    }

    private static void bothReasons() {
        Bench.refused("too many, and a byte that is not as said", b -> b.give("x".repeat(240)), f -> f.text(0x6101), ILLEGAL_ARGUMENT);
        Bench.refused("a byte that is not as said, full", b -> b.give("x".repeat(240)), f -> f.text(127), ILLEGAL_ARGUMENT);
    }

    private static void clearOfAllLengths() {
        for (int characters : new int[] {0, 1, 239, 240}) {
            Bench b = with(characters);
            Bench.due("clear()", b.forge.clear(), characters);
            b.count(0, 0);
            Bench.due("clear() again", b.forge.clear(), 0);
            text(b, Bench.pack("val x=1;"), 8);
            Bench.due("elaborate", Bench.answer(b.forge::elaborate), "1");
        }
    }

    private static void clearLeavesTheRest() {
        Bench b = new Bench();
        Stories.ended(b);
        Bench.due("clear()", b.forge.clear(), 7);
        b.told("((#1*int)->bool)").count(0, 0).count(1, 7).count(2, 4).count(3, 8).result("y", 7).matches("A", 'S', true);
        Bench c = new Bench();
        Stories.halted(c);
        Bench.due("clear()", c.forge.clear(), 16);
        Bench.due("where()", c.forge.where(), 14);
        c.count(1, 7).count(3, 5).told("(int->int)").run(500, 1, 8);
    }
}
