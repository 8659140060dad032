/** The bounds of promise 5: the first place, the last one, the end that is missing, and NONE. */
public final class WhereEdgesTest {
    public static void main(String[] args) {
        noneYet();
        firstAndLastPlace();
        missingEnd();
        firstOfTheToken();
        firstOfSeveral();
        ofTheLatestElaborate();
        untouchedByOthers();
        Bench.end();
    }

    private static void where(Bench b, int want) {
        Bench.due("where()", b.forge.where(), want);
    }

    private static void noneYet() {
        Bench b = new Bench();
        where(b, ModuleForge.NONE);
        where(b.give("$"), ModuleForge.NONE);
        Bench.due("NONE", ModuleForge.NONE, -2);
    }

    private static void firstAndLastPlace() {
        Bench b = new Bench();
        b.noProgram("^$");
        b.noProgram("^;" + " ".repeat(239));
        b.noProgram(" ".repeat(239) + "^$");
        b.noProgram("val x=1;" + " ".repeat(231) + "^1");
        b.noProgram("val x=1" + " ".repeat(232) + "^}");
        b.wrong("val x=^y;");
        b.wrong(" ".repeat(232) + "val x=^y;");
    }

    private static void missingEnd() {
        Bench b = new Bench();
        b.good("", 0);
        b.noProgram("val^");
        b.noProgram("val ^");
        b.noProgram("val x=1^");
        b.noProgram("val x=1  ^");
        b.noProgram("mod A={^");
        b.noProgram("val x=1" + " ".repeat(232) + "^");
        b.noProgram("val x=1" + " ".repeat(233) + "^");
        b.noProgram("val x=" + "1+".repeat(116) + "11^");
        b.good("val x=" + "1+".repeat(116) + "1;", 1);
    }

    private static void firstOfTheToken() {
        Bench b = new Bench();
        b.noProgram("val x=  ^12345 ;");
        b.noProgram("val x=  ^trues ;");
        b.noProgram("val x=1  ^->2;");
        b.noProgram("val x=1  ^then 2;");
        b.noProgram("val x=1 ^# ;");
        b.wrong("mod A={}  ^:>{val x:int;};");
        b.wrong("val x=1  ^==true;");
        b.wrong("val x=  ^if 1 then 1 else 1;");
    }

    private static void firstOfSeveral() {
        Bench b = new Bench();
        b.noProgram("val x=1 ^$ # 12345 abc");
        b.noProgram("val ^1 $");
        b.noProgram("val x=^12345;$");
        b.wrong("val x=^y;val y=z;");
        // what is no PROGRAM is not elaborated at all
        b.noProgram("val x=y;^$");
        b.noProgram("val x=y;val y=1^");
    }

    private static void ofTheLatestElaborate() {
        Bench b = new Bench();
        b.noProgram("val x=^;");
        b.good("val x=1;", 1);
        b.wrong("val y=1;val x=^z;");
        b.noProgram("val ^;");
        b.wrong("type t=^u;");
        b.good("", 0);
        where(b, ModuleForge.NONE);
    }

    private static void untouchedByOthers() {
        Bench b = new Bench().good("sig S={};mod A={};val x=1;", 3);
        b.wrong("val y=1;val x=^z;");
        b.give("val x=1;").look(0, "x", 1).look(2, "B", "NoSuchElementException").matches("A", 'S', true).run(500, 1, 2).result("x", 1);
        b.count(0, 8).told("int");
        where(b, 14);
        b.forge.clear();
        where(b, 14);
        b.good("val x=1;", 1).give("$").run(501, "IllegalArgumentException", 0);
        where(b, ModuleForge.NONE);
    }
}
