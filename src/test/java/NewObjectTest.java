/** Promise 1: an empty TEXT, no PROGRAM. */
public final class NewObjectTest {
    public static void main(String[] args) {
        Bench b = new Bench();
        Bench.due("where()", b.forge.where(), ModuleForge.NONE);
        b.count(0, 0).count(1, 0).count(2, 0).count(3, 0).told("");
        b.look(0, "x", "IllegalStateException").look(1, "t", "IllegalStateException").look(2, "A", "IllegalStateException");
        b.matches("A", 'S', "IllegalStateException").result("x", "IllegalStateException");
        b.run(0, "IllegalStateException", 0).run(500, "IllegalStateException", 0);
        // what is not as said is told of before the PROGRAM that is missing
        b.look(3, "x", "IllegalArgumentException").look(0, "", "IllegalArgumentException");
        b.matches("x", 'S', "IllegalArgumentException").matches("A", 's', "IllegalArgumentException");
        b.run(-1, "IllegalArgumentException", 0).run(501, "IllegalArgumentException", 0);
        b.result("A", "IllegalArgumentException");
        Bench.due("clear()", b.forge.clear(), 0);

        Bench other = new Bench().good("val x=1;", 1);
        b.count(0, 0).count(1, 0);
        other.count(0, 8).count(1, 1);
        Bench.end();
    }
}
