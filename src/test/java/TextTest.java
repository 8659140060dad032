/** Promises 2 and 3, text and clear, and count 0 of promise 11. */
public final class TextTest {
    public static void main(String[] args) {
        ordinary();
        wrongBytes();
        full();
        Bench.end();
    }

    private static String text(Bench b, long w) {
        return Bench.answer(() -> b.forge.text(w));
    }

    private static void ordinary() {
        Bench b = new Bench();
        Bench.due("text of nothing", text(b, 0), "0");
        Bench.due("text of val x=1;", text(b, Bench.pack("val x=1;")), "8");
        // zeros are left out wherever they are
        Bench.due("text with zeros", text(b, 0x7600616C00002000L), "12");
        Bench.due("text with zeros", text(b, 0x0079003D00320000L), "15");
        Bench.due("text of ;", text(b, ';'), "16");
        b.count(0, 16);
        Bench.due("elaborate", Bench.answer(b.forge::elaborate), "2");
        Bench.due("clear()", b.forge.clear(), 16);
        Bench.due("clear()", b.forge.clear(), 0);
        // THE TEXT has gone, the PROGRAM has not
        b.count(0, 0).count(1, 2).value("y", 1, "int");
        Bench.due("text anew", text(b, ' '), "1");
    }

    private static void wrongBytes() {
        Bench b = new Bench().give("val");
        Bench.due("31", text(b, 31), "IllegalArgumentException");
        Bench.due("127", text(b, 127), "IllegalArgumentException");
        Bench.due("128", text(b, 128), "IllegalArgumentException");
        Bench.due("-1", text(b, -1), "IllegalArgumentException");
        Bench.due("1 below a", text(b, 0x6100000000000001L), "IllegalArgumentException");
        Bench.due("255 above a", text(b, 0xFF00000000000061L), "IllegalArgumentException");
        b.count(0, 3);
        Bench.due("32 and 126", text(b, 0x207E), "5");
    }

    private static void full() {
        Bench b = new Bench().give("x".repeat(236));
        Bench.due("five too many", text(b, Bench.pack("abcde")), "IllegalStateException");
        b.count(0, 236);
        // a byte that is not as said comes first
        Bench.due("too many, one wrong", text(b, Bench.pack("abcde\n")), "IllegalArgumentException");
        Bench.due("four", text(b, Bench.pack("abcd")), "240");
        Bench.due("none", text(b, 0), "240");
        Bench.due("one more", text(b, 'x'), "IllegalStateException");
        Bench.due("clear()", b.forge.clear(), 240);
        b.count(4, "IllegalArgumentException").count(-1, "IllegalArgumentException");
    }
}
