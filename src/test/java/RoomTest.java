import com.sun.management.ThreadMXBean;
import java.lang.management.ManagementFactory;

/** What calls make is little: rows are made by the constructor, grow seldom, and are used again. */
public final class RoomTest {
    // all calls of a run have 7.3 million elements together, of at most eight bytes
    private static final long FOR_AN_OBJECT = 8L * 40000;
    private static final long TO_GROW = 8L * 200000;
    private static final long TO_GO_ON = 10000;

    private static final String[] TEXTS = {
        "sig S={type t;val x:t*t*t*t*t*t*t*t*t*t*t*t*t*t*t;val y:t->t->t;};mod F=fun(X:S)X" + ":>S".repeat(45) + ";",
        "sig S={type a;type b;type c;type d;};sig S={mod A:S;mod B:S;mod C:S;};mod F=fun(X:S)X:>S:>S:>S;mod G=fun(A:S){"
            + "mod A=F(A);".repeat(10) + "};",
        "sig S={};" + "sig S=fun(X:S)S;".repeat(12) + "mod F=fun(X:S)X:>S;",
        "sig S={type t;};mod F=fun(X:S){type a=X.t*X.t*bool->X.t;type b=a->a->a;type c=b->b*a;};mod G=fun(X:S){"
            + "mod A=F(X);mod B=F(X);mod C=F(X);};mod A={type t=bool;};mod B={type t=int;};mod C=G(A);mod D=G(B);",
        "sig S={};mod F={};val f=\\x:int.fst fst fst(((x,x),(x,x)),((x,x),(x,x)));" + "val f=\\x:int.f(f(f x));".repeat(5)
            + "val y=f 1;",
    };

    private final ThreadMXBean threads = (ThreadMXBean) ManagementFactory.getThreadMXBean();
    private final long thread = Thread.currentThread().getId();

    public static void main(String[] args) {
        new RoomTest().measure();
        Bench.end();
    }

    private long made() {
        return threads.getThreadAllocatedBytes(thread);
    }

    private void measure() {
        long before = made();
        ModuleForge forge = new ModuleForge();
        below("a new object", made() - before, FOR_AN_OBJECT);
        before = made();
        useAll(forge, 1);
        below("calls of the first round", made() - before, TO_GROW);
        useAll(forge, 1);
        before = made();
        useAll(forge, 50);
        below("calls of later rounds", made() - before, TO_GO_ON);
    }

    private static void below(String what, long bytes, long limit) {
        if (bytes >= limit) {
            Bench.due("bytes for " + what, bytes, "below " + limit);
        }
    }

    private static void useAll(ModuleForge forge, int rounds) {
        for (int round = 0; round < rounds; round++) {
            for (String text : TEXTS) {
                use(forge, text);
            }
        }
    }

    private static void use(ModuleForge forge, String text) {
        forge.clear();
        for (int i = 0; i < text.length(); i++) {
            forge.text(text.charAt(i));
        }
        forge.elaborate();
        forge.run(500);
        forge.look(2, 'F');
        forge.matches('F', 'S');
        forge.told(-1);
    }
}
