import java.util.Random;

/** TYPES are the same if they are built the same, however often they are written. */
public final class SameTypesTest {
    private static final int MOST_ROWS = 7;
    private static final int AGAIN = 3;
    // MATCHES with TYPES that are of no use behind it
    private static final String SEALED = "sig S={type t;val x:t*t;};mod F=fun(X:S)X;mod G=F:>fun(X:S)S;";

    private final Random random;
    // what can be written as an ATOM, the text of what it is, and its LEAVES
    private final String[] atoms = new String[2 + MOST_ROWS + AGAIN];
    private final String[] texts = new String[2 + MOST_ROWS + AGAIN];
    private final int[] leaves = new int[2 + MOST_ROWS + AGAIN];
    private int known;
    private String written;
    private String text;
    private int count;
    private int bindings;
    private final int rowCount;
    private final StringBuilder program = new StringBuilder();

    private SameTypesTest(int seed, boolean sealed) {
        random = new Random(seed);
        rowCount = sealed ? MOST_ROWS - AGAIN : MOST_ROWS;
        bindings = sealed ? 7 : 4;
        program.append(sealed ? SEALED : "");
        learn("a", "int", 1);
        learn("b", "bool", 1);
        program.append("type a=int;type b=bool;");
    }

    public static void main(String[] args) {
        for (int seed = 0; seed < 3000; seed++) {
            new SameTypesTest(seed, false).compare();
            new SameTypesTest(seed, true).compare();
        }
        Bench.end();
    }

    private void learn(String atom, String what, int size) {
        atoms[known] = atom;
        texts[known] = what;
        leaves[known] = size;
        known++;
    }

    /** Some TYPES, a few of them twice; then what is of one is given to a FUNCTION from another one. */
    private void compare() {
        String[] rows = new String[rowCount];
        for (int i = 0; i < rowCount; i++) {
            invent();
            rows[i] = written;
            bind();
        }
        int[] twins = new int[AGAIN];
        for (int i = 0; i < AGAIN; i++) {
            twins[i] = random.nextInt(rowCount);
            written = rows[twins[i]];
            text = texts[2 + twins[i]];
            count = leaves[2 + twins[i]];
            bind();
        }
        for (int i = 0; i < AGAIN; i++) {
            give(2 + twins[i], 2 + rowCount + i);
        }
        give(2 + random.nextInt(rowCount), 2 + random.nextInt(rowCount));
    }

    /** a * b -> c * d of ATOMS that are not too large. */
    private void invent() {
        written = "";
        text = "";
        count = 0;
        int[] four = new int[4];
        for (int i = 0; i < 4; i++) {
            int pick = random.nextInt(known);
            four[i] = leaves[pick] > 5 ? pick % 2 : pick;
            count += leaves[four[i]];
        }
        written = atoms[four[0]] + "*" + atoms[four[1]] + "->" + atoms[four[2]] + "*" + atoms[four[3]];
        text = "((" + texts[four[0]] + "*" + texts[four[1]] + ")->(" + texts[four[2]] + "*" + texts[four[3]] + "))";
    }

    private void bind() {
        String name = String.valueOf((char) ('a' + known));
        program.append("type ").append(name).append('=').append(written).append(';');
        bindings++;
        learn(name, text, count);
    }

    private void give(int from, int given) {
        String all = program + "val f=\\x:" + atoms[from] + ".1;val g=\\x:" + atoms[given] + ".f x;";
        Bench b = new Bench().give(all);
        boolean same = texts[from].equals(texts[given]);
        Bench.due("elaborate of " + all, Bench.answer(b.forge::elaborate), same ? String.valueOf(bindings) : "UnsupportedOperationException");
        Bench.due("where of " + all, b.forge.where(), same ? ModuleForge.NONE : all.length() - 2);
        if (same) {
            b.type(atoms[given], leaves[given], texts[given]);
        }
    }
}
