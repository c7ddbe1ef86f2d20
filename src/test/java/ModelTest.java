/** Long runs of calls, always the same ones, on GaleNames and on the model: each answer has to be the same. */
public final class ModelTest {
    private static final int RUNS = 3000, MOST_WRONG = 20;
    /** An object is used for 512 calls, the last of them for a view of all; a step may take three. */
    private static final int CALLS = 512, CALLS_OF_A_VIEW = 134, CALLS_OF_A_STEP = 3;
    private static final int[] EDGES = {-1, Integer.MIN_VALUE, Integer.MAX_VALUE, 2, 3, 6, 7, 8, 14, 40, 51, 99, 100};
    private static final Due due = new Due();

    private final GaleNames x = new GaleNames();
    private final Model model = new Model();
    private final int mood;
    private final int letters;
    private final String run;
    private long seed;
    private int calls;

    private ModelTest(int number) {
        seed = number * 0x9E3779B97F4A7C15L + 1;
        run = "run " + number + ": ";
        mood = number % 4;
        letters = 2 + number % 7;
    }

    public static void main(String[] args) {
        for (int number = 0; number < RUNS && due.wrong() < MOST_WRONG; number++) new ModelTest(number).run();
        due.end();
    }

    private void run() {
        if (mood == 3) manyNames();
        while (calls <= CALLS - CALLS_OF_A_VIEW - CALLS_OF_A_STEP) step();
        view();
        due.is(run + "calls", Math.min(calls, CALLS), calls);
    }

    private int below(int bound) {
        seed = seed * 6364136223846793005L + 1442695040888963407L;
        return (int) ((seed >>> 33) % bound);
    }

    /** Mostly a number below the bound, at times one at an edge or far off. */
    private int number(int bound) {
        return below(25) == 0 ? EDGES[below(EDGES.length)] : below(Math.max(bound, 1));
    }

    private int coast() {
        return number(2);
    }

    private void check(String call, int got, int want) {
        calls++;
        due.is(run + call, got, want);
    }

    /** So many names that 40 are known soon. */
    private void manyNames() {
        for (int list = 0; list < 5; list++) {
            for (int i = 0; i < 8; i++) {
                text((i == 0 ? "" : ",") + (char) ('a' + i) + (char) ('a' + list));
            }
            check("fill(" + list / 3 + ", " + list % 3 + ")", x.fill(list / 3, list % 3), model.fill(list / 3, list % 3));
        }
    }

    private void step() {
        int kind = below(100);
        if (kind < 22) putSomething();
        else if (kind < 30) fill();
        else if (kind < 48) weather();
        else if (kind < 56) state();
        else if (kind < 64) rare();
        else question();
    }

    private void text(String text) {
        put(Due.packed(text));
    }

    private void put(long characters) {
        check("put(" + characters + ")", x.put(characters), model.put(characters));
    }

    private String name() {
        StringBuilder name = new StringBuilder();
        int length = below(30) == 0 ? 1 + below(7) : 2 + below(5);
        for (int i = 0; i < length; i++) name.append((char) ('a' + below(i == 0 ? letters * 2 : letters)));
        return name.toString();
    }

    private void putSomething() {
        int kind = below(24);
        if (kind == 0) put((long) below(1 << 30) << 34 | below(1 << 30));
        else if (kind == 1) text(",");
        else if (kind == 2) text(String.valueOf((char) (33 + below(94))));
        else if (kind < 5) check("wipe()", x.wipe(), model.wipe());
        else if (model.count(12) > 0 && kind < 15) text("," + name());
        else if (model.count(12) == 0) text(name());
        else fill();
    }

    private void fill() {
        int coast = coast();
        int list = number(3);
        if (below(3) == 0) check("wipe()", x.wipe(), model.wipe());
        if (model.count(12) == 0) text(name());
        check("fill(" + coast + ", " + list + ")", x.fill(coast, list), model.fill(coast, list));
    }

    private void weather() {
        int kind = below(mood == 1 ? 60 : 20);
        int coast = coast();
        if (kind == 0) {
            check("endYear()", x.endYear(), model.endYear());
        } else if (kind < 9 || kind > 30) {
            check("storm(" + coast + ")", x.storm(coast), model.storm(coast));
        } else {
            int storm = number(model.count(3));
            int by = 1 + number(mood == 2 ? 50 : 20);
            check("harm(" + storm + ", " + by + ")", x.harm(storm, by), model.harm(storm, by));
        }
    }

    private void state() {
        int slot = number(2);
        int kind = below(8);
        if (kind < 2) check("save(" + slot + ")", x.save(slot), model.save(slot));
        else if (kind == 2) check("restore(" + slot + ")", x.restore(slot), model.restore(slot));
        else check("undo()", x.undo(), model.undo());
    }

    private void rare() {
        int kind = below(8);
        int coast = coast();
        int list = number(3);
        int place = number(9);
        if (kind == 0) check("strike", x.strike(coast, list, place), model.strike(coast, list, place));
        else if (kind == 1) check("write(" + coast + ", " + list + ")", x.write(coast, list), model.write(coast, list));
        else if (kind < 4) set();
        else if (kind < 6) apologise();
        else namesake();
    }

    private void set() {
        int setting = number(3);
        int value = below(8) == 0 ? number(103) : setting == 2 ? 1 + below(6) : 1 + below(60);
        check("set(" + setting + ", " + value + ")", x.set(setting, value), model.set(setting, value));
    }

    private void apologise() {
        int namesake = number(model.count(6));
        check("apologise(" + namesake + ")", x.apologise(namesake), model.apologise(namesake));
    }

    private void namesake() {
        check("wipe()", x.wipe(), model.wipe());
        text(name());
        check("namesake()", x.namesake(), model.namesake());
    }

    private void question() {
        int name = number(model.count(1) + 1);
        int other = number(model.count(1) + 1);
        int what = number(7);
        int coast = coast();
        int list = number(3);
        switch (below(15)) {
            case 0: check("of(" + name + ", " + what + ")", x.of(name, what), model.of(name, what)); break;
            case 1: check("letter(" + name + ", " + what + ")", x.letter(name, what), model.letter(name, what)); break;
            case 2: check("listed", x.listed(coast, list, what), model.listed(coast, list, what)); break;
            case 3: storm(number(model.count(3) + 1), number(4)); break;
            case 4: namesake(number(model.count(6) + 1), number(3)); break;
            case 5: check("ranked(" + name + ")", x.ranked(name), model.ranked(name)); break;
            case 6: sign(number(model.count(12) + 1)); break;
            case 7: count(number(14)); break;
            case 8: check("find()", x.find(), model.find()); break;
            case 9: check("beginning()", x.beginning(), model.beginning()); break;
            case 10: check("next(" + coast + ")", x.next(coast), model.next(coast)); break;
            case 11: check("left(" + coast + ", " + list + ")", x.left(coast, list), model.left(coast, list)); break;
            case 12: ifRetired(number(60)); break;
            case 13: check("same(" + name + ", " + other + ")", x.same(name, other), model.same(name, other)); break;
            default: check("fault()", x.fault(), model.fault());
        }
    }

    private void storm(int storm, int what) {
        check("ofStorm(" + storm + ", " + what + ")", x.ofStorm(storm, what), model.ofStorm(storm, what));
    }

    private void namesake(int namesake, int what) {
        check("ofNamesake(" + namesake + ", " + what + ")", x.ofNamesake(namesake, what), model.ofNamesake(namesake, what));
    }

    private void sign(int place) {
        check("sign(" + place + ")", x.sign(place), model.sign(place));
    }

    private void count(int what) {
        check("count(" + what + ")", x.count(what), model.count(what));
    }

    private void ifRetired(int harm) {
        check("ifRetired(" + harm + ")", x.ifRetired(harm), model.ifRetired(harm));
    }

    /** What has come of all the calls. */
    private void view() {
        for (int what = 0; what < 14; what++) count(what);
        for (int i = 0; i < 54; i++) {
            int place = i % 9;
            check("listed", x.listed(i / 27, i / 9 % 3, place), model.listed(i / 27, i / 9 % 3, place));
        }
        for (int name = 0; name < model.count(1); name++) check("ranked", x.ranked(name), model.ranked(name));
        for (int storm = 0; storm < model.count(3); storm++) storm(storm, 2);
        for (int namesake = 0; namesake < model.count(6); namesake++) namesake(namesake, 1);
    }
}
