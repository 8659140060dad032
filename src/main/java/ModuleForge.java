import java.util.Arrays;
import java.util.NoSuchElementException;

/**
 * A language of modules: THE TEXT is read into a row of instructions, parts before what they are
 * parts of; the elaborator goes through that row once with TYPES and OFFERS, the machine with VALUES.
 */
public final class ModuleForge {
    public static final int NONE = -2;

    private static final int MOST_CHARACTERS = 240;
    private static final int MOST_STEPS = 500;
    private static final int LONGEST_TELLING = 256;

    private final char[] characters;
    private int length;
    private final Reader reader;
    private final Elaborator elaborator;
    private final Machine machine;
    private final Route route;
    private Program program;
    private Program spare;
    private Program tried;
    private boolean ready;
    private final char[] telling;
    private int tellingSize;

    public ModuleForge() {
        characters = new char[MOST_CHARACTERS];
        reader = new Reader();
        elaborator = new Elaborator();
        machine = new Machine();
        route = new Route();
        program = new Program();
        spare = new Program();
        telling = new char[LONGEST_TELLING];
    }

    public int text(long w) throws IllegalArgumentException, IllegalStateException {
        int coming = 0;
        for (int shift = 56; shift >= 0; shift -= 8) {
            int c = (int) (w >>> shift) & 255;
            if (c != 0) {
                if (c < 32 || c > 126) {
                    throw new IllegalArgumentException();
                }
                coming++;
            }
        }
        if (length + coming > MOST_CHARACTERS) {
            throw new IllegalStateException();
        }
        for (int shift = 56; shift >= 0; shift -= 8) {
            int c = (int) (w >>> shift) & 255;
            if (c != 0) {
                characters[length] = (char) c;
                length++;
            }
        }
        return length;
    }

    public int clear() {
        int had = length;
        length = 0;
        return had;
    }

    public int elaborate() throws IllegalArgumentException, UnsupportedOperationException {
        // all work goes into the spare, so that a fault leaves the PROGRAM that is there alone
        tried = spare;
        spare.begin();
        reader.read(spare, characters, length);
        elaborator.begin(spare);
        for (int pc = 0; pc < spare.code.size; pc++) {
            elaborator.step(pc);
        }
        Program done = spare;
        spare = program;
        program = done;
        ready = true;
        machine.forget();
        tellingSize = 0;
        return program.bindings;
    }

    public int where() {
        return tried == null ? NONE : tried.fault;
    }

    public int look(int what, long path)
            throws IllegalArgumentException, IllegalStateException, NoSuchElementException {
        if (what != Offers.VALUE && what != Offers.TYPE && what != Offers.MODULE) {
            throw new IllegalArgumentException();
        }
        int found = reach(what, path);
        if (what == Offers.MODULE) {
            tellingSize = 0;
            return program.offers.sizeOf(found);
        }
        tellingSize = program.types.spell(found, telling, 0, 0);
        return program.types.leavesOf(found);
    }

    public int told(int k) {
        if (k == -1) {
            return tellingSize;
        }
        return k >= 0 && k < tellingSize ? telling[k] : NONE;
    }

    public boolean matches(long path, int name)
            throws IllegalArgumentException, IllegalStateException, NoSuchElementException {
        if (name < 'A' || name > 'Z') {
            throw new IllegalArgumentException();
        }
        int offer = reach(Offers.MODULE, path);
        int sign = program.scope.find(Offers.SIGNATURE, name);
        if (sign < 0) {
            throw new NoSuchElementException();
        }
        Scope scope = program.scope;
        return program.matcher.fits(offer, scope.whats[sign], scope.froms[sign], scope.tos[sign]);
    }

    public int run(int limit) throws IllegalArgumentException, IllegalStateException {
        if (limit < 0 || limit > MOST_STEPS) {
            throw new IllegalArgumentException();
        }
        if (!ready) {
            throw new IllegalStateException();
        }
        return machine.execute(program.code, limit) ? 1 : 0;
    }

    public int result(long path) throws IllegalArgumentException, IllegalStateException,
            NoSuchElementException, UnsupportedOperationException {
        if (!route.read(path, false)) {
            throw new IllegalArgumentException();
        }
        if (!ready || !machine.ended) {
            throw new IllegalStateException();
        }
        if (program.reach(route, Offers.VALUE) < 0) {
            throw new NoSuchElementException();
        }
        long value = machine.reach(route);
        int kind = Machine.kindOf(value);
        if (kind != Machine.NUMBER && kind != Machine.TRUTH) {
            throw new UnsupportedOperationException();
        }
        return Machine.dataOf(value);
    }

    public int count(int what) throws IllegalArgumentException {
        switch (what) {
            case 0:
                return length;
            case 1:
                return ready ? program.bindings : 0;
            case 2:
                return ready ? program.secrets : 0;
            case 3:
                return machine.steps;
            default:
                throw new IllegalArgumentException();
        }
    }

    private int reach(int sort, long path) {
        if (!route.read(path, sort == Offers.MODULE)) {
            throw new IllegalArgumentException();
        }
        if (!ready) {
            throw new IllegalStateException();
        }
        int found = program.reach(route, sort);
        if (found < 0) {
            throw new NoSuchElementException();
        }
        return found;
    }

    /** The NAMES of a PATH to look at. */
    private static final class Route {
        final int[] names = new int[8];
        int size;

        /** Whether the bytes are a PATH that ends with a great NAME (of a MODULE) or with a small one. */
        boolean read(long path, boolean ofModule) {
            int seen = 0;
            size = 0;
            for (int shift = 56; shift >= 0; shift -= 8) {
                int c = (int) (path >>> shift) & 255;
                if (c != 0) {
                    if (seen % 2 == 0) {
                        names[size] = c;
                        size++;
                    } else if (c != '.') {
                        return false;
                    }
                    seen++;
                }
            }
            return seen % 2 == 1 && areNames(ofModule);
        }

        private boolean areNames(boolean ofModule) {
            for (int i = 0; i < size; i++) {
                boolean great = i < size - 1 || ofModule;
                int c = names[i];
                if (great ? c < 'A' || c > 'Z' : c < 'a' || c > 'z') {
                    return false;
                }
            }
            return true;
        }
    }

    /** THE TEXT as a row of TOKENS. The kind of a sign of one character is that character. */
    private static final class Tokens {
        static final int END = 0;
        static final int BAD = 1;
        static final int NUMERAL = 2;
        static final int SMALL = 3;
        static final int GREAT = 4;
        // from here on in the order of WORDS
        static final int VAL = 5;
        static final int TYPE = 6;
        static final int MOD = 7;
        static final int SIG = 8;
        static final int FUN = 9;
        static final int INT = 10;
        static final int BOOL = 11;
        static final int TRUE = 12;
        static final int FALSE = 13;
        static final int IF = 14;
        static final int THEN = 15;
        static final int ELSE = 16;
        static final int FST = 17;
        static final int SND = 18;
        static final int SAME = 19;
        static final int SEAL = 20;
        static final int ARROW = 21;
        static final String WORDS = "val type mod sig fun int bool true false if then else fst snd ";
        static final String SIGNS = "{}()=;:.,*+-<\\";

        final int[] kinds = new int[MOST_CHARACTERS + 1];
        final int[] places = new int[MOST_CHARACTERS + 1];
        final int[] values = new int[MOST_CHARACTERS + 1];
        private int size;

        void split(char[] text, int length) {
            size = 0;
            int at = 0;
            for (int guard = 0; guard < length && at < length; guard++) {
                at = text[at] == ' ' ? at + 1 : token(text, at, length);
            }
            add(END, length, 0);
        }

        /** Takes the TOKEN that begins there: the place behind it. */
        private int token(char[] text, int at, int length) {
            if (isDigit(text[at])) {
                return numeral(text, at, length);
            }
            if (isLetter(text[at])) {
                return word(text, at, length);
            }
            char next = at + 1 < length ? text[at + 1] : ' ';
            int longer = longerSign(text[at], next);
            if (longer != BAD) {
                add(longer, at, 0);
                return at + 2;
            }
            add(SIGNS.indexOf(text[at]) >= 0 ? text[at] : BAD, at, 0);
            return at + 1;
        }

        private int numeral(char[] text, int at, int length) {
            int end = at;
            int value = 0;
            for (; end < length && isDigit(text[end]); end++) {
                value = value * 10 + text[end] - '0';
            }
            add(end - at > 4 ? BAD : NUMERAL, at, value);
            return end;
        }

        private int word(char[] text, int at, int length) {
            int end = at;
            for (; end < length && isLetter(text[end]); end++) {
                continue;
            }
            if (end - at == 1) {
                add(text[at] >= 'a' ? SMALL : GREAT, at, text[at]);
            } else {
                add(wordKind(text, at, end), at, 0);
            }
            return end;
        }

        private static int wordKind(char[] text, int at, int end) {
            int kind = VAL;
            int same = 0;
            for (int i = 0; i < WORDS.length(); i++) {
                char c = WORDS.charAt(i);
                if (c == ' ') {
                    if (same == end - at) {
                        return kind;
                    }
                    kind++;
                    same = 0;
                } else if (same >= 0 && at + same < end && text[at + same] == c) {
                    same++;
                } else {
                    same = -1;
                }
            }
            return BAD;
        }

        private static int longerSign(char first, char second) {
            if (first == '=' && second == '=') {
                return SAME;
            }
            if (first == ':' && second == '>') {
                return SEAL;
            }
            return first == '-' && second == '>' ? ARROW : BAD;
        }

        private static boolean isDigit(char c) {
            return c >= '0' && c <= '9';
        }

        private static boolean isLetter(char c) {
            return c >= 'a' && c <= 'z' || c >= 'A' && c <= 'Z';
        }

        private void add(int kind, int place, int value) {
            if (size < kinds.length) {
                kinds[size] = kind;
                places[size] = place;
                values[size] = value;
                size++;
            }
        }
    }

    /**
     * The instructions that a PROGRAM has been read into. In T_ .. are those of TYPES, E_ of EXPRS,
     * M_ of MODULES, S_ of SIGNS, P_ of SPECS, B_ of BINDINGS; the machine SKIPs what has no VALUE.
     */
    private static final class Code {
        static final int SKIP = 0;
        static final int T_INT = 1;
        static final int T_BOOL = 2;
        static final int T_NAME = 3;
        static final int T_PART = 4;
        static final int T_PAIR = 5;
        static final int T_ARROW = 6;
        static final int T_CHECK = 7;
        static final int E_NUMBER = 8;
        static final int E_TRUTH = 9;
        static final int E_NAME = 10;
        static final int E_PART = 11;
        static final int E_FST = 12;
        static final int E_SND = 13;
        static final int E_PAIR = 14;
        static final int E_CALL = 15;
        static final int E_ADD = 16;
        static final int E_SUBTRACT = 17;
        static final int E_LESS = 18;
        static final int E_SAME = 19;
        static final int E_FUN = 20;
        static final int E_RETURN = 21;
        static final int E_THEN = 22;
        static final int E_ELSE = 23;
        static final int E_IF = 24;
        static final int M_NAME = 25;
        static final int M_PART = 26;
        static final int M_OPEN = 27;
        static final int M_CLOSE = 28;
        static final int M_FUN = 29;
        static final int M_RETURN = 30;
        static final int M_APPLY = 31;
        static final int M_SEAL = 32;
        static final int M_CHECK = 33;
        static final int S_NAME = 34;
        static final int S_OPEN = 35;
        static final int S_CLOSE = 36;
        static final int S_RETURN = 37;
        static final int P_HIDE = 38;
        // these three, and then four, in the order of WORDS
        static final int P_VAL = 39;
        static final int P_TYPE = 40;
        static final int P_MOD = 41;
        static final int B_VAL = 42;
        static final int B_TYPE = 43;
        static final int B_MOD = 44;
        static final int B_SIG = 45;
        // no character of THE TEXT brings more than two instructions with it
        static final int MOST = 2 * MOST_CHARACTERS + 32;

        final int[] ops = new int[MOST];
        final int[] args = new int[MOST];
        final int[] places = new int[MOST];
        final int[] jumps = new int[MOST];
        int size;

        int add(int op, int arg, int place) {
            int at = size;
            if (at < MOST) {
                ops[at] = op;
                args[at] = arg;
                places[at] = place;
                jumps[at] = at + 1;
                size++;
            }
            return at;
        }

        /** The jump of that instruction goes to the next one that will be added. */
        void aim(int at) {
            if (at < size) {
                jumps[at] = size;
            }
        }
    }

    /** Reads TOKENS by the grammar and writes instructions; a fault ends it by IllegalArgumentException. */
    private static final class Reader {
        static final int DEEPEST = 8;

        private final Tokens tokens = new Tokens();
        private Program program;
        private Code code;
        private int at;

        void read(Program target, char[] text, int length) {
            program = target;
            code = target.code;
            at = 0;
            tokens.split(text, length);
            for (int guard = 0; guard < MOST_CHARACTERS && !is(Tokens.END); guard++) {
                binding(0);
                target.bindings++;
            }
        }

        private boolean is(int kind) {
            return tokens.kinds[at] == kind;
        }

        private int place() {
            return tokens.places[at];
        }

        /** Goes behind the TOKEN, which is of that kind or a fault: the NAME or number that it is. */
        private int take(int kind) {
            if (!is(kind)) {
                fault();
            }
            int value = tokens.values[at];
            if (kind != Tokens.END) {
                at++;
            }
            return value;
        }

        private void fault() {
            program.fault = place();
            throw new IllegalArgumentException();
        }

        private void refuseBelow(int deep) {
            if (deep > DEEPEST) {
                fault();
            }
        }

        private void binding(int deep) {
            int word = tokens.kinds[at];
            if (word < Tokens.VAL || word > Tokens.SIG) {
                fault();
            }
            take(word);
            int place = place();
            int name = take(word == Tokens.VAL || word == Tokens.TYPE ? Tokens.SMALL : Tokens.GREAT);
            take('=');
            boolean hasValue = word == Tokens.VAL || word == Tokens.MOD;
            int skip = hasValue ? Code.MOST : code.add(Code.SKIP, 0, place);
            meaning(word, deep);
            take(';');
            code.add(Code.B_VAL + word - Tokens.VAL, name, place);
            code.aim(skip);
        }

        private void meaning(int word, int deep) {
            switch (word) {
                case Tokens.VAL:
                    expr(deep);
                    break;
                case Tokens.TYPE:
                    type(deep);
                    break;
                case Tokens.MOD:
                    module(deep);
                    break;
                default:
                    sign(deep);
            }
        }

        private void module(int deep) {
            refuseBelow(deep);
            int first = place();
            plain(deep);
            code.add(Code.M_CHECK, 0, first);
            for (int guard = 0; guard < MOST_CHARACTERS && is(Tokens.SEAL); guard++) {
                int seal = place();
                take(Tokens.SEAL);
                int skip = code.add(Code.SKIP, 0, seal);
                sign(deep + 1);
                code.add(Code.M_SEAL, 0, seal);
                code.aim(skip);
            }
        }

        private void plain(int deep) {
            if (is('{')) {
                row(deep);
            } else if (is(Tokens.FUN)) {
                functor(deep);
            } else {
                path();
                if (is('(')) {
                    int place = place();
                    take('(');
                    path();
                    take(')');
                    code.add(Code.M_APPLY, 0, place);
                }
            }
        }

        private void row(int deep) {
            int place = place();
            take('{');
            code.add(Code.M_OPEN, 0, place);
            for (int guard = 0; guard < MOST_CHARACTERS && !is('}'); guard++) {
                binding(deep + 1);
            }
            take('}');
            code.add(Code.M_CLOSE, 0, place);
        }

        private void functor(int deep) {
            int place = place();
            int skip = code.add(Code.SKIP, 0, place);
            int name = parameter(deep);
            code.aim(skip);
            int enter = code.add(Code.M_FUN, name, place);
            module(deep + 1);
            code.add(Code.M_RETURN, 0, place);
            code.aim(enter);
        }

        /** fun ( X : SIGN ), in a MODULE and in a SIGN. */
        private int parameter(int deep) {
            take(Tokens.FUN);
            take('(');
            int name = take(Tokens.GREAT);
            take(':');
            sign(deep + 1);
            take(')');
            return name;
        }

        private void path() {
            int place = place();
            code.add(Code.M_NAME, take(Tokens.GREAT), place);
            for (int guard = 0; guard < MOST_CHARACTERS && is('.'); guard++) {
                take('.');
                place = place();
                code.add(Code.M_PART, take(Tokens.GREAT), place);
            }
        }

        /** PATH . and a small NAME, for which the instruction is. */
        private void member(int op) {
            int place = place();
            code.add(Code.M_NAME, take(Tokens.GREAT), place);
            take('.');
            for (int guard = 0; guard < MOST_CHARACTERS && is(Tokens.GREAT); guard++) {
                place = place();
                code.add(Code.M_PART, take(Tokens.GREAT), place);
                take('.');
            }
            place = place();
            code.add(op, take(Tokens.SMALL), place);
        }

        private void sign(int deep) {
            refuseBelow(deep);
            int first = place();
            if (is('{')) {
                take('{');
                code.add(Code.S_OPEN, 0, first);
                for (int guard = 0; guard < MOST_CHARACTERS && !is('}'); guard++) {
                    spec(deep + 1);
                }
                take('}');
                code.add(Code.S_CLOSE, 0, first);
            } else if (is(Tokens.FUN)) {
                int name = parameter(deep);
                code.add(Code.M_FUN, name, first);
                sign(deep + 1);
                code.add(Code.S_RETURN, 0, first);
            } else {
                code.add(Code.S_NAME, take(Tokens.GREAT), first);
            }
            code.add(Code.M_CHECK, 0, first);
        }

        private void spec(int deep) {
            int word = tokens.kinds[at];
            if (word < Tokens.VAL || word > Tokens.MOD) {
                fault();
            }
            take(word);
            int place = place();
            int name = take(word == Tokens.MOD ? Tokens.GREAT : Tokens.SMALL);
            int op = Code.P_VAL + word - Tokens.VAL;
            if (word == Tokens.TYPE && is(';')) {
                op = Code.P_HIDE;
            } else {
                take(word == Tokens.TYPE ? '=' : ':');
                if (word == Tokens.MOD) {
                    sign(deep);
                } else {
                    type(deep);
                }
            }
            take(';');
            code.add(op, name, place);
        }

        private void type(int deep) {
            refuseBelow(deep);
            int first = place();
            atom(deep);
            for (int guard = 0; guard < MOST_CHARACTERS && is('*'); guard++) {
                take('*');
                atom(deep);
                code.add(Code.T_PAIR, 0, first);
            }
            if (is(Tokens.ARROW)) {
                take(Tokens.ARROW);
                type(deep + 1);
                code.add(Code.T_ARROW, 0, first);
            }
            code.add(Code.T_CHECK, 0, first);
        }

        private void atom(int deep) {
            int place = place();
            switch (tokens.kinds[at]) {
                case Tokens.INT:
                    take(Tokens.INT);
                    code.add(Code.T_INT, 0, place);
                    break;
                case Tokens.BOOL:
                    take(Tokens.BOOL);
                    code.add(Code.T_BOOL, 0, place);
                    break;
                case Tokens.SMALL:
                    code.add(Code.T_NAME, take(Tokens.SMALL), place);
                    break;
                case Tokens.GREAT:
                    member(Code.T_PART);
                    break;
                default:
                    take('(');
                    type(deep + 1);
                    take(')');
            }
        }

        private void expr(int deep) {
            refuseBelow(deep);
            if (is('\\')) {
                function(deep);
                return;
            }
            if (is(Tokens.IF)) {
                choice(deep);
                return;
            }
            sum(deep);
            if (is('<') || is(Tokens.SAME)) {
                int place = place();
                int op = is('<') ? Code.E_LESS : Code.E_SAME;
                take(tokens.kinds[at]);
                sum(deep);
                code.add(op, 0, place);
            }
        }

        private void function(int deep) {
            int place = place();
            take('\\');
            int name = take(Tokens.SMALL);
            take(':');
            int skip = code.add(Code.SKIP, 0, place);
            type(deep + 1);
            take('.');
            code.aim(skip);
            int enter = code.add(Code.E_FUN, name, place);
            expr(deep + 1);
            code.add(Code.E_RETURN, 0, place);
            code.aim(enter);
        }

        private void choice(int deep) {
            int place = place();
            take(Tokens.IF);
            expr(deep + 1);
            int then = code.add(Code.E_THEN, 0, place);
            take(Tokens.THEN);
            expr(deep + 1);
            int over = code.add(Code.E_ELSE, 0, place);
            code.aim(then);
            take(Tokens.ELSE);
            expr(deep + 1);
            code.aim(over);
            code.add(Code.E_IF, 0, place);
        }

        private void sum(int deep) {
            call(deep);
            for (int guard = 0; guard < MOST_CHARACTERS && (is('+') || is('-')); guard++) {
                int place = place();
                int op = is('+') ? Code.E_ADD : Code.E_SUBTRACT;
                take(tokens.kinds[at]);
                call(deep);
                code.add(op, 0, place);
            }
        }

        private void call(int deep) {
            part(deep);
            for (int guard = 0; guard < MOST_CHARACTERS && beginsPart(tokens.kinds[at]); guard++) {
                int place = place();
                part(deep);
                code.add(Code.E_CALL, 0, place);
            }
        }

        private static boolean beginsPart(int kind) {
            return kind == Tokens.NUMERAL || kind == Tokens.SMALL || kind == Tokens.GREAT
                    || kind == Tokens.TRUE || kind == Tokens.FALSE
                    || kind == Tokens.FST || kind == Tokens.SND || kind == '(';
        }

        private void part(int deep) {
            refuseBelow(deep);
            int place = place();
            int kind = tokens.kinds[at];
            switch (kind) {
                case Tokens.NUMERAL:
                    code.add(Code.E_NUMBER, take(kind), place);
                    break;
                case Tokens.TRUE:
                case Tokens.FALSE:
                    take(kind);
                    code.add(Code.E_TRUTH, kind == Tokens.TRUE ? 1 : 0, place);
                    break;
                case Tokens.SMALL:
                    code.add(Code.E_NAME, take(kind), place);
                    break;
                case Tokens.GREAT:
                    member(Code.E_PART);
                    break;
                case Tokens.FST:
                case Tokens.SND:
                    take(kind);
                    part(deep + 1);
                    code.add(kind == Tokens.FST ? Code.E_FST : Code.E_SND, 0, place);
                    break;
                default:
                    brackets(deep);
            }
        }

        private void brackets(int deep) {
            int place = place();
            take('(');
            expr(deep + 1);
            boolean pair = is(',');
            if (pair) {
                take(',');
                expr(deep + 1);
            }
            take(')');
            if (pair) {
                code.add(Code.E_PAIR, 0, place);
            }
        }
    }

    /**
     * All TYPES of a PROGRAM, each of them once, so that two are the same if their numbers are.
     * The parts of a TYPE have lower numbers than it has.
     */
    private static final class Types {
        static final int INT = 0;
        static final int BOOL = 1;
        static final int SECRET = 2;
        static final int ARROW = 3;
        static final int PAIR = 4;
        static final int MOST_SECRETS = 200;
        static final int MOST_LEAVES = 30;
        // within matching what stands for SECRETS can be large; no answer needs to know how large
        private static final int COUNTED_LEAVES = 1000;
        private static final int BUCKETS = 128;
        private static final int LONGEST_WALK = 1000000;
        private static final int DEEPEST = 40;

        private int[] kinds = new int[BUCKETS];
        private int[] lefts = new int[BUCKETS];
        private int[] rights = new int[BUCKETS];
        private int[] leaves = new int[BUCKETS];
        private int[] nexts = new int[BUCKETS];
        private int[] images = new int[BUCKETS];
        private int[] visits = new int[BUCKETS];
        private int[] waiting = new int[BUCKETS];
        private final int[] heads = new int[BUCKETS];
        private final int[] standIns = new int[MOST_SECRETS];
        private int standing;
        private int visit;
        int size;

        void begin() {
            size = 0;
            Arrays.fill(heads, -1);
            made(INT, 0, 0);
            made(BOOL, 0, 0);
        }

        int made(int kind, int left, int right) {
            int bucket = (kind + 7 * left + 31 * right) & (BUCKETS - 1);
            int t = heads[bucket];
            for (int guard = 0; guard < size && t >= 0; guard++) {
                if (kinds[t] == kind && lefts[t] == left && rights[t] == right) {
                    return t;
                }
                t = nexts[t];
            }
            if (size == kinds.length) {
                int room = 2 * size;
                kinds = Arrays.copyOf(kinds, room);
                lefts = Arrays.copyOf(lefts, room);
                rights = Arrays.copyOf(rights, room);
                leaves = Arrays.copyOf(leaves, room);
                nexts = Arrays.copyOf(nexts, room);
                images = Arrays.copyOf(images, room);
                visits = Arrays.copyOf(visits, room);
                waiting = Arrays.copyOf(waiting, room);
            }
            t = size;
            kinds[t] = kind;
            lefts[t] = left;
            rights[t] = right;
            leaves[t] = kind < ARROW ? 1 : Math.min(leaves[left] + leaves[right], COUNTED_LEAVES);
            nexts[t] = heads[bucket];
            visits[t] = 0;
            heads[bucket] = t;
            size++;
            return t;
        }

        /** Forgets the latest ones, of which then nothing may speak any more. */
        void shrink(int to) {
            for (int t = size - 1; t >= to; t--) {
                int bucket = (kinds[t] + 7 * lefts[t] + 31 * rights[t]) & (BUCKETS - 1);
                heads[bucket] = nexts[t];
            }
            size = to;
        }

        int leavesOf(int type) {
            return leaves[type];
        }

        boolean is(int type, int kind) {
            return kinds[type] == kind;
        }

        /** What an ARROW is from, the first of a PAIR, the number of a SECRET. */
        int left(int type) {
            return lefts[type];
        }

        int right(int type) {
            return rights[type];
        }

        /** From here on no SECRET has another TYPE in its place. */
        void forgetStandIns() {
            Arrays.fill(standIns, -1);
            standing = 0;
            visit++;
        }

        void standIn(int secret, int type) {
            if (secret >= 0 && secret < MOST_SECRETS) {
                standIns[secret] = type;
                standing++;
            }
        }

        boolean hasStandIn(int secret) {
            return secret >= 0 && secret < MOST_SECRETS && standIns[secret] >= 0;
        }

        boolean nothingStands() {
            return standing == 0;
        }

        /** The TYPE with what stands for SECRETS in their place. */
        int image(int type) {
            int depth = 0;
            waiting[0] = type;
            for (int guard = 0; guard < LONGEST_WALK && depth >= 0; guard++) {
                int t = waiting[depth];
                if (visits[t] == visit) {
                    depth--;
                } else if (kinds[t] < ARROW) {
                    settle(t, kinds[t] == SECRET && hasStandIn(lefts[t]) ? standIns[lefts[t]] : t);
                } else if (visits[lefts[t]] != visit) {
                    depth++;
                    waiting[depth] = lefts[t];
                } else if (visits[rights[t]] != visit) {
                    depth++;
                    waiting[depth] = rights[t];
                } else {
                    settle(t, made(kinds[t], images[lefts[t]], images[rights[t]]));
                }
            }
            return images[type];
        }

        private void settle(int type, int image) {
            images[type] = image;
            visits[type] = visit;
        }

        void beginMarking() {
            visit++;
        }

        /** Marks the SECRETS that are in the TYPE. */
        void mark(int type, int[] marks) {
            int depth = 0;
            waiting[0] = type;
            for (int guard = 0; guard < LONGEST_WALK && depth >= 0; guard++) {
                int t = waiting[depth];
                boolean leaf = kinds[t] < ARROW;
                if (visits[t] == visit) {
                    depth--;
                } else if (!leaf && visits[lefts[t]] != visit) {
                    depth++;
                    waiting[depth] = lefts[t];
                } else if (!leaf && visits[rights[t]] != visit) {
                    depth++;
                    waiting[depth] = rights[t];
                } else {
                    visits[t] = visit;
                    if (kinds[t] == SECRET && lefts[t] < MOST_SECRETS) {
                        marks[lefts[t]] = 1;
                    }
                }
            }
        }

        /** Writes the text of the TYPE from that place on: the place behind it. */
        int spell(int type, char[] row, int at, int deep) {
            if (deep > DEEPEST) {
                return at;
            }
            switch (kinds[type]) {
                case INT:
                    return write("int", row, at);
                case BOOL:
                    return write("bool", row, at);
                case SECRET:
                    return writeNumber(lefts[type], row, write("#", row, at));
                default:
                    int end = spell(lefts[type], row, write("(", row, at), deep + 1);
                    end = write(kinds[type] == ARROW ? "->" : "*", row, end);
                    return write(")", row, spell(rights[type], row, end, deep + 1));
            }
        }

        private static int writeNumber(int number, char[] row, int at) {
            int end = at;
            for (int unit = 100; unit >= 1; unit /= 10) {
                if (end < row.length && (number >= unit || unit == 1)) {
                    row[end] = (char) ('0' + number / unit % 10);
                    end++;
                }
            }
            return end;
        }

        private static int write(String letters, char[] row, int at) {
            int end = at;
            for (int i = 0; i < letters.length() && end < row.length; i++) {
                row[end] = letters.charAt(i);
                end++;
            }
            return end;
        }
    }

    /**
     * All OFFERS of a PROGRAM. SECRETS that are HIDDEN in a SIGN or bound by a FUNCTOR are told by
     * the numbers among which they came up: what came up there and is free in the OFFER is meant.
     */
    private static final class Offers {
        static final int VALUE = 0;
        static final int TYPE = 1;
        static final int MODULE = 2;
        static final int SIGNATURE = 3;
        static final int MOST_COMPONENTS = 60;
        // a level costs eight characters of THE TEXT, so no OFFER is that deep
        static final int DEEPEST = 40;
        private static final int FUNCTOR = -1;
        private static final int ROOM = 64;

        private final Types types;
        private int[] firsts = new int[ROOM];
        private int[] sizes = new int[ROOM];
        private int[] results = new int[ROOM];
        private int[] froms = new int[ROOM];
        private int[] mids = new int[ROOM];
        private int[] tos = new int[ROOM];
        private int[] totals = new int[ROOM];
        private int[] widests = new int[ROOM];
        private int[] sorts = new int[ROOM];
        private int[] names = new int[ROOM];
        private int[] whats = new int[ROOM];
        private final int[] marks = new int[Types.MOST_SECRETS];
        int size;
        int parts;

        Offers(Types types) {
            this.types = types;
        }

        void begin() {
            shrink(0, 0);
        }

        void shrink(int toSize, int toParts) {
            size = toSize;
            parts = toParts;
        }

        /** How many COMPONENTS a STRUCTURE has, -1 for a FUNCTOR. */
        int sizeOf(int offer) {
            return sizes[offer];
        }

        boolean isFunctor(int offer) {
            return sizes[offer] == FUNCTOR;
        }

        int argument(int functor) {
            return firsts[functor];
        }

        int resultOf(int functor) {
            return results[functor];
        }

        /** PARAMETERS of the FUNCTOR came up from this number on. */
        int from(int functor) {
            return froms[functor];
        }

        /** Those MADE came up from this number on. */
        int mid(int functor) {
            return mids[functor];
        }

        /** Before this number all that the FUNCTOR binds had come up. */
        int to(int functor) {
            return tos[functor];
        }

        boolean isTooLarge(int offer) {
            return totals[offer] > MOST_COMPONENTS || widests[offer] > Types.MOST_LEAVES;
        }

        int sortAt(int structure, int k) {
            return sorts[firsts[structure] + k];
        }

        int nameAt(int structure, int k) {
            return names[firsts[structure] + k];
        }

        int whatAt(int structure, int k) {
            return whats[firsts[structure] + k];
        }

        /** The TYPE or OFFER of that COMPONENT, -1 if there is none such. */
        int find(int offer, int sort, int name) {
            for (int k = 0; k < sizes[offer]; k++) {
                if (sortAt(offer, k) == sort && nameAt(offer, k) == name) {
                    return whatAt(offer, k);
                }
            }
            return -1;
        }

        /** A STRUCTURE with room for so many COMPONENTS, which are to be put in and then summed up. */
        int structure(int components) {
            int offer = add(parts, components);
            for (int guard = 0; guard < 32 && parts + components > sorts.length; guard++) {
                int room = 2 * sorts.length;
                sorts = Arrays.copyOf(sorts, room);
                names = Arrays.copyOf(names, room);
                whats = Arrays.copyOf(whats, room);
            }
            parts += components;
            return offer;
        }

        void put(int structure, int k, int sort, int name, int what) {
            int part = firsts[structure] + k;
            sorts[part] = sort;
            names[part] = name;
            whats[part] = what;
        }

        void sumUp(int structure) {
            int total = sizes[structure];
            int widest = 0;
            for (int k = 0; k < sizes[structure]; k++) {
                int what = whatAt(structure, k);
                if (sortAt(structure, k) == MODULE) {
                    total += totals[what];
                    widest = Math.max(widest, widests[what]);
                } else {
                    widest = Math.max(widest, types.leavesOf(what));
                }
            }
            totals[structure] = total;
            widests[structure] = widest;
        }

        int functor(int argument, int result, int from, int mid, int to) {
            int offer = add(argument, FUNCTOR);
            results[offer] = result;
            froms[offer] = from;
            mids[offer] = mid;
            tos[offer] = to;
            totals[offer] = totals[argument] + totals[result];
            widests[offer] = Math.max(widests[argument], widests[result]);
            return offer;
        }

        private int add(int first, int components) {
            if (size == firsts.length) {
                int room = 2 * size;
                firsts = Arrays.copyOf(firsts, room);
                sizes = Arrays.copyOf(sizes, room);
                results = Arrays.copyOf(results, room);
                froms = Arrays.copyOf(froms, room);
                mids = Arrays.copyOf(mids, room);
                tos = Arrays.copyOf(tos, room);
                totals = Arrays.copyOf(totals, room);
                widests = Arrays.copyOf(widests, room);
            }
            firsts[size] = first;
            sizes[size] = components;
            size++;
            return size - 1;
        }

        /** The OFFER with what stands for SECRETS in their place; what a FUNCTOR binds never has stand-ins. */
        int image(int offer, int deep) {
            // where there are no COMPONENTS there are no SECRETS: FUNCTORS of {} can be many
            if (totals[offer] == 0 || types.nothingStands() || deep > DEEPEST) {
                return offer;
            }
            if (isFunctor(offer)) {
                int argument = image(firsts[offer], deep + 1);
                int result = image(results[offer], deep + 1);
                return functor(argument, result, froms[offer], mids[offer], tos[offer]);
            }
            int copy = structure(sizes[offer]);
            for (int k = 0; k < sizes[offer]; k++) {
                int sort = sortAt(offer, k);
                int what = whatAt(offer, k);
                int image = sort == MODULE ? image(what, deep + 1) : types.image(what);
                put(copy, k, sort, nameAt(offer, k), image);
            }
            sumUp(copy);
            return copy;
        }

        /** Marks the SECRETS that are free in the OFFER. */
        void markFree(int offer) {
            Arrays.fill(marks, 0);
            types.beginMarking();
            mark(offer, 0);
        }

        boolean isMarked(int secret) {
            return secret >= 0 && secret < marks.length && marks[secret] != 0;
        }

        private void mark(int offer, int deep) {
            if (totals[offer] == 0 || deep > DEEPEST) {
                return;
            }
            if (isFunctor(offer)) {
                mark(firsts[offer], deep + 1);
                mark(results[offer], deep + 1);
                // what came up within a FUNCTOR is known nowhere else, so all of it is bound here
                for (int n = froms[offer]; n < tos[offer] && n < marks.length; n++) {
                    marks[n] = 0;
                }
                return;
            }
            for (int k = 0; k < sizes[offer]; k++) {
                if (sortAt(offer, k) == MODULE) {
                    mark(whatAt(offer, k), deep + 1);
                } else {
                    types.mark(whatAt(offer, k), marks);
                }
            }
        }
    }

    /** Whether OFFERS MATCH others. */
    private static final class Matcher {
        private final Types types;
        private final Offers offers;
        private int ghosts;

        Matcher(Types types, Offers offers) {
            this.types = types;
            this.offers = offers;
        }

        /** Whether the OFFER MATCHES the wanted one, in which SECRETS that came up from .. to are HIDDEN. */
        boolean fits(int offer, int wanted, int from, int to) {
            int typesBefore = types.size;
            int offersBefore = offers.size;
            int partsBefore = offers.parts;
            ghosts = Types.MOST_SECRETS;
            boolean answer = agrees(offer, wanted, from, to, 0);
            offers.shrink(offersBefore, partsBefore);
            types.shrink(typesBefore);
            return answer;
        }

        private boolean agrees(int offer, int wanted, int from, int to, int deep) {
            types.forgetStandIns();
            assign(offer, wanted, from, to, deep);
            return covers(offer, offers.image(wanted, deep), deep);
        }

        /** HIDDEN SECRETS of the wanted OFFER get what stands for them in the other one. */
        void assign(int offer, int wanted, int from, int to, int deep) {
            if (from == to || offers.isFunctor(offer) || deep > Offers.DEEPEST) {
                return;
            }
            for (int k = 0; k < offers.sizeOf(wanted); k++) {
                int sort = offers.sortAt(wanted, k);
                int what = offers.whatAt(wanted, k);
                int there = offers.find(offer, sort, offers.nameAt(wanted, k));
                if (there >= 0 && sort == Offers.MODULE) {
                    assign(there, what, from, to, deep + 1);
                } else if (there >= 0 && sort == Offers.TYPE && isOpen(what, from, to)) {
                    types.standIn(types.left(what), there);
                }
            }
        }

        private boolean isOpen(int type, int from, int to) {
            return types.is(type, Types.SECRET) && types.left(type) >= from && types.left(type) < to
                    && !types.hasStandIn(types.left(type));
        }

        /** Whether the OFFER MATCHES one without HIDDEN SECRETS. */
        private boolean covers(int offer, int wanted, int deep) {
            if (offers.isFunctor(offer) != offers.isFunctor(wanted) || deep > Offers.DEEPEST) {
                return false;
            }
            if (offers.isFunctor(wanted)) {
                return functorCovers(offer, wanted, deep);
            }
            for (int k = 0; k < offers.sizeOf(wanted); k++) {
                int sort = offers.sortAt(wanted, k);
                int what = offers.whatAt(wanted, k);
                int there = offers.find(offer, sort, offers.nameAt(wanted, k));
                if (there < 0) {
                    return false;
                }
                if (sort == Offers.MODULE ? !covers(there, what, deep + 1) : there != what) {
                    return false;
                }
            }
            return true;
        }

        /**
         * What both sides bind but may not choose gets SECRETS that are nowhere else: both can have
         * come from one FUNCTOR, and then bind the same numbers.
         */
        private boolean functorCovers(int functor, int wanted, int deep) {
            offers.markFree(offers.argument(wanted));
            types.forgetStandIns();
            haunt(offers.from(wanted), offers.mid(wanted));
            int given = offers.image(offers.argument(wanted), deep + 1);
            int due = offers.image(offers.resultOf(wanted), deep + 1);

            offers.markFree(offers.resultOf(functor));
            types.forgetStandIns();
            haunt(offers.mid(functor), offers.to(functor));
            assign(given, offers.argument(functor), offers.from(functor), offers.mid(functor), deep + 1);
            int taken = offers.image(offers.argument(functor), deep + 1);
            int made = offers.image(offers.resultOf(functor), deep + 1);

            return covers(given, taken, deep + 1)
                    && agrees(made, due, offers.mid(wanted), offers.to(wanted), deep + 1);
        }

        /** Ghosts stand for the marked SECRETS that came up from .. to. */
        private void haunt(int from, int to) {
            for (int n = from; n < to; n++) {
                if (offers.isMarked(n)) {
                    types.standIn(n, types.made(Types.SECRET, ghosts, 0));
                    ghosts++;
                }
            }
        }
    }

    /** What is known at a place of THE TEXT; rows that have ended are cut off again. */
    private static final class Scope {
        // what is known at once has come by at least five characters each
        private static final int MOST = 64;

        final int[] sorts = new int[MOST];
        final int[] names = new int[MOST];
        final int[] whats = new int[MOST];
        final int[] froms = new int[MOST];
        final int[] tos = new int[MOST];
        int size;

        void bind(int sort, int name, int what) {
            bindSign(sort, name, what, 0, 0);
        }

        void bindSign(int sort, int name, int what, int from, int to) {
            if (size < MOST) {
                sorts[size] = sort;
                names[size] = name;
                whats[size] = what;
                froms[size] = from;
                tos[size] = to;
                size++;
            }
        }

        void cut(int mark) {
            size = mark;
        }

        int find(int sort, int name) {
            return findSince(0, sort, name);
        }

        /** The place of the latest one of that sort and NAME in the row from the mark on, or -1. */
        int findSince(int mark, int sort, int name) {
            for (int i = size - 1; i >= mark; i--) {
                if (sorts[i] == sort && names[i] == name) {
                    return i;
                }
            }
            return -1;
        }

        /** Whether it is a COMPONENT of the STRUCTURE of the row from the mark on. */
        boolean isComponent(int mark, int i) {
            return sorts[i] != Offers.SIGNATURE && findSince(mark, sorts[i], names[i]) == i;
        }
    }

    /** What has come out of reading and elaborating. */
    private static final class Program {
        final Code code = new Code();
        final Types types = new Types();
        final Offers offers = new Offers(types);
        final Matcher matcher = new Matcher(types, offers);
        final Scope scope = new Scope();
        int fault = NONE;
        int bindings;
        int secrets;

        void begin() {
            code.size = 0;
            types.begin();
            offers.begin();
            scope.cut(0);
            fault = NONE;
            bindings = 0;
            secrets = 0;
        }

        /** The TYPE or OFFER at a PATH at the end, -1 if there is none such. */
        int reach(Route route, int sort) {
            int known = scope.find(route.size == 1 ? sort : Offers.MODULE, route.names[0]);
            int what = known < 0 ? -1 : scope.whats[known];
            for (int i = 1; i < route.size && what >= 0; i++) {
                what = offers.find(what, i == route.size - 1 ? sort : Offers.MODULE, route.names[i]);
            }
            return what;
        }
    }

    /**
     * Goes through the instructions with a stack of TYPES, OFFERS and marks; what is WRONG ends it by
     * UnsupportedOperationException. A SIGN lies on the stack as the numbers from .. to of its
     * HIDDEN SECRETS and, on top, its OFFER.
     */
    private static final class Elaborator {
        private static final int ROOM = 128;

        private final int[] stack = new int[ROOM];
        private int top;
        private Program program;
        private Code code;
        private Types types;
        private Offers offers;
        private Scope scope;

        void begin(Program target) {
            program = target;
            code = target.code;
            types = target.types;
            offers = target.offers;
            scope = target.scope;
            top = 0;
        }

        void step(int pc) {
            int arg = code.args[pc];
            int place = code.places[pc];
            switch (code.ops[pc]) {
                case Code.T_INT: case Code.E_NUMBER: push(Types.INT); break;
                case Code.T_BOOL: case Code.E_TRUTH: push(Types.BOOL); break;
                case Code.T_NAME: push(known(Offers.TYPE, arg, place)); break;
                case Code.E_NAME: push(known(Offers.VALUE, arg, place)); break;
                case Code.M_NAME: push(known(Offers.MODULE, arg, place)); break;
                case Code.T_PART: push(component(Offers.TYPE, arg, place)); break;
                case Code.E_PART: push(component(Offers.VALUE, arg, place)); break;
                case Code.M_PART: push(component(Offers.MODULE, arg, place)); break;
                case Code.T_PAIR: join(Types.PAIR); break;
                case Code.T_ARROW: join(Types.ARROW); break;
                case Code.T_CHECK: checkLeaves(place); break;
                case Code.E_PAIR: join(Types.PAIR); checkLeaves(place); break;
                case Code.E_FST: case Code.E_SND: takeOfPair(code.ops[pc] == Code.E_FST, place); break;
                case Code.E_CALL: call(place); break;
                case Code.E_ADD: case Code.E_SUBTRACT: ofInts(Types.INT, place); break;
                case Code.E_LESS: case Code.E_SAME: ofInts(Types.BOOL, place); break;
                case Code.E_FUN: enter(Offers.VALUE, arg); break;
                case Code.E_RETURN: leaveFunction(place); break;
                case Code.E_IF: choose(place); break;
                case Code.M_OPEN: push(scope.size); break;
                case Code.M_CLOSE: push(closed(pop())); break;
                case Code.M_FUN: enter(Offers.MODULE, arg); break;
                case Code.M_RETURN: leaveFunctor(); break;
                case Code.M_APPLY: apply(place); break;
                case Code.M_SEAL: seal(place); break;
                case Code.M_CHECK: checkOffer(place); break;
                case Code.S_NAME: renewed(arg, place); break;
                case Code.S_OPEN: push(program.secrets); push(scope.size); break;
                case Code.S_CLOSE: closeSign(); break;
                case Code.S_RETURN: leaveSign(); break;
                case Code.P_VAL: specify(Offers.VALUE, arg, pop(), place); break;
                case Code.P_HIDE: hide(arg, place); break;
                case Code.P_TYPE: specify(Offers.TYPE, arg, pop(), place); break;
                case Code.P_MOD: specify(Offers.MODULE, arg, popSign(), place); break;
                case Code.B_VAL: scope.bind(Offers.VALUE, arg, pop()); break;
                case Code.B_TYPE: scope.bind(Offers.TYPE, arg, pop()); break;
                case Code.B_MOD: scope.bind(Offers.MODULE, arg, pop()); break;
                case Code.B_SIG: bindSignature(arg); break;
                default: break;
            }
        }

        private void push(int what) {
            if (top < ROOM) {
                stack[top] = what;
                top++;
            }
        }

        private int pop() {
            if (top > 0) {
                top--;
            }
            return stack[top];
        }

        private int peek() {
            return stack[Math.max(top - 1, 0)];
        }

        private int popSign() {
            int offer = pop();
            pop();
            pop();
            return offer;
        }

        private void wrong(int place) {
            program.fault = place;
            throw new UnsupportedOperationException();
        }

        private int known(int sort, int name, int place) {
            int i = scope.find(sort, name);
            if (i < 0) {
                wrong(place);
            }
            return scope.whats[i];
        }

        private int component(int sort, int name, int place) {
            int what = offers.find(pop(), sort, name);
            if (what < 0) {
                wrong(place);
            }
            return what;
        }

        private void join(int kind) {
            int right = pop();
            int left = pop();
            push(types.made(kind, left, right));
        }

        private void checkLeaves(int place) {
            if (types.leavesOf(peek()) > Types.MOST_LEAVES) {
                wrong(place);
            }
        }

        private void checkOffer(int place) {
            if (offers.isTooLarge(peek())) {
                wrong(place);
            }
        }

        private void takeOfPair(boolean first, int place) {
            int pair = pop();
            if (!types.is(pair, Types.PAIR)) {
                wrong(place);
            }
            push(first ? types.left(pair) : types.right(pair));
        }

        private void call(int place) {
            int given = pop();
            int function = pop();
            if (!types.is(function, Types.ARROW) || types.left(function) != given) {
                wrong(place);
            }
            push(types.right(function));
        }

        private void ofInts(int answer, int place) {
            int right = pop();
            int left = pop();
            if (left != Types.INT || right != Types.INT) {
                wrong(place);
            }
            push(answer);
        }

        private void choose(int place) {
            int otherwise = pop();
            int then = pop();
            int condition = pop();
            if (condition != Types.BOOL || then != otherwise) {
                wrong(place);
            }
            push(then);
        }

        /** The NAME is known as what lies on top, till the mark that is put there is taken. */
        private void enter(int sort, int name) {
            int what = peek();
            push(scope.size);
            scope.bind(sort, name, what);
        }

        private void leaveFunction(int place) {
            int answer = pop();
            scope.cut(pop());
            push(answer);
            join(Types.ARROW);
            checkLeaves(place);
        }

        private void leaveFunctor() {
            int result = pop();
            push(functorOf(result));
        }

        private void leaveSign() {
            int result = popSign();
            int functor = functorOf(result);
            // what the FUNCTOR binds is not HIDDEN
            push(program.secrets);
            push(program.secrets);
            push(functor);
        }

        private int functorOf(int result) {
            scope.cut(pop());
            int argument = pop();
            int mid = pop();
            int from = pop();
            return offers.functor(argument, result, from, mid, program.secrets);
        }

        /** The STRUCTURE of the row from the mark on, which ends. */
        private int closed(int mark) {
            int components = 0;
            for (int i = mark; i < scope.size; i++) {
                components += scope.isComponent(mark, i) ? 1 : 0;
            }
            int offer = offers.structure(components);
            int k = 0;
            for (int i = mark; i < scope.size; i++) {
                if (scope.isComponent(mark, i)) {
                    offers.put(offer, k, scope.sorts[i], scope.names[i], scope.whats[i]);
                    k++;
                }
            }
            offers.sumUp(offer);
            scope.cut(mark);
            return offer;
        }

        private void closeSign() {
            int offer = closed(pop());
            push(program.secrets);
            push(offer);
        }

        private int newSecret(int place) {
            if (program.secrets >= Types.MOST_SECRETS) {
                wrong(place);
            }
            program.secrets++;
            return types.made(Types.SECRET, program.secrets - 1, 0);
        }

        /** New SECRETS stand for those free in the OFFER that came up from .. to; no others stand for anything. */
        private void renew(int offer, int from, int to, int place) {
            offers.markFree(offer);
            types.forgetStandIns();
            for (int n = from; n < to; n++) {
                if (offers.isMarked(n)) {
                    types.standIn(n, newSecret(place));
                }
            }
        }

        private void apply(int place) {
            int argument = pop();
            int functor = pop();
            if (!offers.isFunctor(functor)) {
                wrong(place);
            }
            int wanted = offers.argument(functor);
            int from = offers.from(functor);
            int mid = offers.mid(functor);
            if (!program.matcher.fits(argument, wanted, from, mid)) {
                wrong(place);
            }
            renew(offers.resultOf(functor), mid, offers.to(functor), place);
            program.matcher.assign(argument, wanted, from, mid, 0);
            push(offers.image(offers.resultOf(functor), 0));
        }

        private void seal(int place) {
            int wanted = pop();
            int to = pop();
            int from = pop();
            if (!program.matcher.fits(pop(), wanted, from, to)) {
                wrong(place);
            }
            push(wanted);
        }

        private void renewed(int name, int place) {
            int i = scope.find(Offers.SIGNATURE, name);
            if (i < 0) {
                wrong(place);
            }
            push(program.secrets);
            renew(scope.whats[i], scope.froms[i], scope.tos[i], place);
            push(program.secrets);
            push(offers.image(scope.whats[i], 0));
        }

        private void bindSignature(int name) {
            int offer = pop();
            int to = pop();
            int from = pop();
            scope.bindSign(Offers.SIGNATURE, name, offer, from, to);
        }

        /** A SPEC comes to its row, whose mark lies on top. */
        private void specify(int sort, int name, int what, int place) {
            if (scope.findSince(peek(), sort, name) >= 0) {
                wrong(place);
            }
            scope.bind(sort, name, what);
        }

        private void hide(int name, int place) {
            specify(Offers.TYPE, name, newSecret(place), place);
        }
    }

    /**
     * Does the instructions with VALUES. What is known is a chain of cells, the latest first; a
     * STRUCTURE is the part of such a chain that its row has made. TYPES play no role any more:
     * sealing hides nothing here, since nobody asks for what is not offered.
     */
    private static final class Machine {
        static final int NUMBER = 0;
        static final int TRUTH = 1;
        private static final int PAIR = 2;
        private static final int FUNCTION = 3;
        private static final int STRUCTURE = 4;
        private static final int MARK = 5;
        private static final int MOST_OPEN = 8;
        private static final int MOST_INSTRUCTIONS = 1000000;
        // two numbers in one: those of cells and of instructions are below this
        private static final int HALF = 1024;
        private static final int ROOM = 512;

        private final long[] stack = new long[ROOM];
        private int top;
        // every cell comes with a STEP; cell 0 is the end of all chains
        private final int[] names = new int[MOST_STEPS + 1];
        private final long[] values = new long[MOST_STEPS + 1];
        private final int[] nexts = new int[MOST_STEPS + 1];
        private int cells;
        private long[] pairs = new long[ROOM];
        private int pairSize;
        private final int[] returns = new int[MOST_OPEN];
        private final int[] homes = new int[MOST_OPEN];
        private int open;
        private int latest;
        private int limit;
        private boolean halted;
        private Code code;
        int steps;
        boolean ended;

        static int kindOf(long value) {
            return (int) (value >> 32);
        }

        static int dataOf(long value) {
            return (int) value;
        }

        private static long valueOf(int kind, int data) {
            return (long) kind << 32 | data & 0xffffffffL;
        }

        void forget() {
            steps = 0;
            ended = false;
        }

        /** Whether the RUN has ended within that many STEPS. */
        boolean execute(Code instructions, int most) {
            code = instructions;
            limit = most;
            steps = 0;
            top = 0;
            cells = 0;
            pairSize = 0;
            open = 0;
            latest = 0;
            halted = false;
            int pc = 0;
            for (int guard = 0; guard < MOST_INSTRUCTIONS && pc < code.size && !halted; guard++) {
                pc = step(pc);
            }
            ended = !halted && pc >= code.size;
            return ended;
        }

        /** The VALUE at a PATH at the end of the RUN. */
        long reach(Route route) {
            long value = search(latest, 0, route.names[0]);
            for (int i = 1; i < route.size; i++) {
                value = component(value, route.names[i]);
            }
            return value;
        }

        private int step(int pc) {
            int arg = code.args[pc];
            switch (code.ops[pc]) {
                case Code.SKIP: case Code.E_ELSE: return code.jumps[pc];
                case Code.E_NUMBER: push(valueOf(NUMBER, arg)); break;
                case Code.E_TRUTH: push(valueOf(TRUTH, arg)); break;
                case Code.E_NAME: case Code.M_NAME: push(search(latest, 0, arg)); break;
                case Code.E_PART: case Code.M_PART: push(component(pop(), arg)); break;
                case Code.E_FST: push(half(0)); break;
                case Code.E_SND: push(half(1)); break;
                case Code.E_PAIR: pair(); break;
                case Code.E_ADD: case Code.E_SUBTRACT: case Code.E_LESS: case Code.E_SAME:
                    calculate(code.ops[pc]);
                    break;
                case Code.E_FUN: case Code.M_FUN:
                    push(valueOf(FUNCTION, pc * HALF + latest));
                    return code.jumps[pc];
                case Code.E_CALL: case Code.M_APPLY: return call(pc);
                case Code.E_RETURN: case Code.M_RETURN: return leave(pc);
                case Code.E_THEN: return dataOf(pop()) == 0 ? code.jumps[pc] : pc + 1;
                case Code.M_OPEN: push(valueOf(MARK, latest)); break;
                case Code.M_CLOSE: close(); break;
                case Code.B_VAL: case Code.B_MOD: bind(arg); break;
                default: break;
            }
            return pc + 1;
        }

        private void push(long value) {
            if (top < ROOM) {
                stack[top] = value;
                top++;
            } else {
                halted = true;
            }
        }

        private long pop() {
            if (top > 0) {
                top--;
            }
            return stack[top];
        }

        /** The latest with that NAME in the chain from one cell on, before another one. */
        private long search(int cell, int before, int name) {
            int at = cell;
            for (int guard = 0; guard < cells && at > before; guard++) {
                if (names[at] == name) {
                    return values[at];
                }
                at = nexts[at];
            }
            return 0;
        }

        private long component(long structure, int name) {
            int both = dataOf(structure);
            return search(both / HALF, both % HALF, name);
        }

        private void pair() {
            long second = pop();
            long first = pop();
            if (pairSize + 2 > pairs.length) {
                pairs = Arrays.copyOf(pairs, 2 * pairs.length);
            }
            pairs[pairSize] = first;
            pairs[pairSize + 1] = second;
            push(valueOf(PAIR, pairSize));
            pairSize += 2;
        }

        private long half(int which) {
            int at = dataOf(pop()) + which;
            return at >= 0 && at < pairSize ? pairs[at] : 0;
        }

        private void calculate(int op) {
            int right = dataOf(pop());
            int left = dataOf(pop());
            switch (op) {
                case Code.E_ADD:
                    push(valueOf(NUMBER, left + right));
                    break;
                case Code.E_SUBTRACT:
                    push(valueOf(NUMBER, left - right));
                    break;
                case Code.E_LESS:
                    push(valueOf(TRUTH, left < right ? 1 : 0));
                    break;
                default:
                    push(valueOf(TRUTH, left == right ? 1 : 0));
            }
        }

        private boolean mayStep() {
            if (steps >= limit) {
                halted = true;
                return false;
            }
            steps++;
            return true;
        }

        private void bind(int name) {
            if (mayStep()) {
                latest = newCell(name, pop(), latest);
            }
        }

        private int newCell(int name, long value, int next) {
            if (cells < MOST_STEPS) {
                cells++;
            }
            names[cells] = name;
            values[cells] = value;
            nexts[cells] = next;
            return cells;
        }

        private void close() {
            int before = dataOf(pop());
            push(valueOf(STRUCTURE, latest * HALF + before));
            latest = before;
        }

        private int call(int pc) {
            long given = pop();
            int both = dataOf(pop());
            if (!mayStep()) {
                return pc;
            }
            if (open == MOST_OPEN) {
                halted = true;
                return pc;
            }
            returns[open] = pc + 1;
            homes[open] = latest;
            open++;
            int enter = both / HALF;
            latest = newCell(code.args[enter], given, both % HALF);
            return enter + 1;
        }

        private int leave(int pc) {
            if (open == 0) {
                halted = true;
                return pc;
            }
            open--;
            latest = homes[open];
            return returns[open];
        }
    }
}
