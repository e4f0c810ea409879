/** Promise 1: a new object. */
public final class NewObjectTest {
    public static void main(String[] args) {
        ScoreboardCore core = new ScoreboardCore();
        for (int address = 0; address < 512; address++) {
            Check.due("read(" + address + ")", core.read(address), 0);
        }
        core = new ScoreboardCore();
        for (int k = 0; k < 24; k++) {
            Check.due("register(" + k + ")", core.register(k), 0);
        }
        Check.due("place()", core.place(), 0);
        Check.due("stopped()", core.stopped(), 3);
        Check.due("cycles()", core.cycles(), 0);
        for (int unit = 0; unit < 8; unit++) {
            Check.due("done(" + unit + ")", core.done(unit), 0);
        }
        for (int what = 0; what < 5; what++) {
            Check.due("waited(" + what + ")", core.waited(what), 0);
        }
        objectsShareNothing();
        Check.end();
    }

    private static void objectsShareNothing() {
        ScoreboardCore used = new ScoreboardCore();
        used.put(1, 7);
        Program.lay(used, 0, "36311", "0400000000");
        used.run(100);
        ScoreboardCore other = new ScoreboardCore();
        Check.due("register(3) of another object", other.register(3), 0);
        Check.due("read(0) of another object", other.read(0), 0);
        Check.due("cycles() of another object", other.cycles(), 0);
        Check.due("done(2) of another object", other.done(2), 0);
    }
}
