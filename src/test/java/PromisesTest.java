import java.util.function.ToIntFunction;

/** Each promise of the document by itself, with answers worked out by hand. */
public final class PromisesTest {
    private static final int NONE = MouthRiddles.NONE, UNKNOWN = MouthRiddles.UNKNOWN, OUTSIDE = MouthRiddles.OUTSIDE;
    private static final int STATE = MouthRiddles.STATE, FULL = MouthRiddles.FULL;
    private static final int MIN = Integer.MIN_VALUE, MAX = Integer.MAX_VALUE;
    private static final int SAYING = 0, PLAIN = 1, BORROWED = 2, FIGHTING = 3, COUNTED = 4, KNOWN = 5;
    private static int wrong = 0;

    private static void due(int promise, String call, long got, long want) {
        if (got == want) return;
        wrong++;
        System.out.println("promise " + promise + ": " + call + " answered " + got + ", due is " + want);
    }

    /** A refusal is the one that is due and changes nothing that is told. */
    private static void refused(int promise, String call, MouthRiddles x, ToIntFunction<MouthRiddles> done, int want) {
        long before = x.digest();
        due(promise, call, done.applyAsInt(x), want);
        due(promise, call + " and then digest()", x.digest(), before);
    }

    public static void main(String[] args) {
        newObject();
        thing();
        sense();
        senseOf();
        saying();
        as();
        fits();
        riddle();
        more();
        said();
        answers();
        turns();
        judge();
        astray();
        made();
        madeOften();
        madeOfMany();
        head();
        hears();
        parts();
        blind();
        tongue();
        lack();
        goes();
        nearest();
        letters();
        blank();
        fault();
        tree();
        variant();
        changes();
        changesInAllWays();
        chance();
        chanceOften();
        stake();
        whom();
        count();
        digest();
        System.out.println(wrong == 0 ? "PromisesTest: all answers are as due" : "PromisesTest: " + wrong + " answers are not as due");
        if (wrong != 0) System.exit(1);
    }

    /** Things 0 to 3 with traits 0, 1, 0 1 2, none; word 0: senses 0, 1, 2; word 1: sense 3; word 2: none. */
    private static MouthRiddles told() {
        MouthRiddles x = new MouthRiddles();
        x.thing(1);
        x.thing(2);
        x.thing(7);
        x.thing(0);
        x.sense(0, 0);
        x.sense(0, 1);
        x.sense(0, 2);
        x.sense(1, 3);
        return x;
    }

    private static void newObject() {
        MouthRiddles x = new MouthRiddles();
        for (int what = 0; what < 10; what++) due(1, "count(" + what + ")", x.count(what), 0);
        for (int word = 0; word < 16; word++) due(1, "senseOf", x.senseOf(word, 0), NONE);
        due(1, "fits(0, 0)", x.fits(0, 0), UNKNOWN);
        due(1, "parts(0)", x.parts(0), NONE);
        due(1, "changes(0)", x.changes(0), STATE);
        due(1, "chance(0)", x.chance(0), STATE);
        due(1, "fault()", x.fault(), 0);
        due(1, "tree()", x.tree(), STATE);
        due(1, "whom(NONE)", x.whom(NONE), 0);
        due(1, "whom(0)", x.whom(0), UNKNOWN);
        MouthRiddles y = new MouthRiddles();
        y.thing(5);
        due(1, "another object's count(0)", x.count(0), 0);
    }

    private static void thing() {
        MouthRiddles x = new MouthRiddles();
        due(2, "thing(0)", x.thing(0), 0);
        due(2, "thing(16777215)", x.thing(16777215), 1);
        refused(2, "thing(16777216)", x, o -> o.thing(16777216), OUTSIDE);
        refused(2, "thing(-1)", x, o -> o.thing(-1), OUTSIDE);
        refused(2, "thing(MIN)", x, o -> o.thing(MIN), OUTSIDE);
        refused(2, "thing(MAX)", x, o -> o.thing(MAX), OUTSIDE);
        for (int i = 2; i < 12; i++) due(2, "thing(3)", x.thing(3), i);
        refused(2, "the 13th thing", x, o -> o.thing(3), FULL);
        refused(2, "the 13th thing, outside", x, o -> o.thing(-1), OUTSIDE);
        due(2, "count(0)", x.count(0), 12);
    }

    private static void sense() {
        MouthRiddles x = new MouthRiddles();
        due(3, "sense(0, 0)", x.sense(0, 0), 1);
        due(3, "sense(0, 23)", x.sense(0, 23), 2);
        due(3, "sense(15, 23)", x.sense(15, 23), 1);
        refused(3, "sense(0, 23) again", x, o -> o.sense(0, 23), OUTSIDE);
        refused(3, "sense(0, 24)", x, o -> o.sense(0, 24), OUTSIDE);
        refused(3, "sense(0, -1)", x, o -> o.sense(0, -1), OUTSIDE);
        refused(3, "sense(16, 24)", x, o -> o.sense(16, 24), UNKNOWN);
        refused(3, "sense(-1, 1)", x, o -> o.sense(-1, 1), UNKNOWN);
        refused(3, "sense(MAX, 1)", x, o -> o.sense(MAX, 1), UNKNOWN);
        due(3, "sense(0, 5)", x.sense(0, 5), 3);
        refused(3, "a 4th sense", x, o -> o.sense(0, 6), FULL);
        refused(3, "a 4th sense that is there", x, o -> o.sense(0, 5), OUTSIDE);
        refused(3, "a 4th sense, outside", x, o -> o.sense(0, MAX), OUTSIDE);
    }

    private static void senseOf() {
        MouthRiddles x = new MouthRiddles();
        x.sense(3, 9);
        x.sense(3, 4);
        due(4, "senseOf(3, 0)", x.senseOf(3, 0), 9);
        due(4, "senseOf(3, 1)", x.senseOf(3, 1), 4);
        due(4, "senseOf(3, 2)", x.senseOf(3, 2), NONE);
        due(4, "senseOf(3, -1)", x.senseOf(3, -1), NONE);
        due(4, "senseOf(3, MAX)", x.senseOf(3, MAX), NONE);
        due(4, "senseOf(3, MIN)", x.senseOf(3, MIN), NONE);
        due(4, "senseOf(4, 0)", x.senseOf(4, 0), NONE);
        due(4, "senseOf(15, 0)", x.senseOf(15, 0), NONE);
        refused(4, "senseOf(16, 0)", x, o -> o.senseOf(16, 0), UNKNOWN);
        refused(4, "senseOf(-1, -1)", x, o -> o.senseOf(-1, -1), UNKNOWN);
    }

    private static void saying() {
        MouthRiddles x = new MouthRiddles();
        due(5, "saying(0, 0, 0)", x.saying(0, 0, 0), 0);
        due(5, "saying(5, 15, 23)", x.saying(5, 15, 23), 1);
        refused(5, "saying(6, 0, 0)", x, o -> o.saying(6, 0, 0), OUTSIDE);
        refused(5, "saying(-1, 0, 0)", x, o -> o.saying(-1, 0, 0), OUTSIDE);
        refused(5, "saying(0, 0, 24)", x, o -> o.saying(0, 0, 24), OUTSIDE);
        refused(5, "saying(0, 0, -1)", x, o -> o.saying(0, 0, -1), OUTSIDE);
        refused(5, "saying(0, 16, 24)", x, o -> o.saying(0, 16, 24), OUTSIDE);
        refused(5, "saying(6, 16, 0)", x, o -> o.saying(6, 16, 0), OUTSIDE);
        refused(5, "saying(0, 16, 0)", x, o -> o.saying(0, 16, 0), UNKNOWN);
        refused(5, "saying(0, -1, 0)", x, o -> o.saying(0, -1, 0), UNKNOWN);
        for (int i = 2; i < 20; i++) due(5, "saying(1, 1, 1)", x.saying(1, 1, 1), i);
        refused(5, "the 21st saying", x, o -> o.saying(1, 1, 1), FULL);
        refused(5, "the 21st saying, unknown", x, o -> o.saying(1, 16, 1), UNKNOWN);
        refused(5, "the 21st saying, outside", x, o -> o.saying(1, 1, 24), OUTSIDE);
    }

    private static void as() {
        MouthRiddles x = new MouthRiddles();
        for (int kind = 0; kind < 6; kind++) x.saying(kind, 0, 0);
        for (int own = 0; own < 6; own++) {
            for (int kind = 0; kind < 6; kind++) {
                boolean is = kind == SAYING || own == kind || own == FIGHTING && kind == BORROWED;
                due(6, "as(" + own + ", " + kind + ")", x.as(own, kind), is ? own : NONE);
            }
        }
        refused(6, "as(6, 6)", x, o -> o.as(6, 6), UNKNOWN);
        refused(6, "as(-1, 0)", x, o -> o.as(-1, 0), UNKNOWN);
        refused(6, "as(0, 6)", x, o -> o.as(0, 6), OUTSIDE);
        refused(6, "as(0, -1)", x, o -> o.as(0, -1), OUTSIDE);
    }

    private static void row(int promise, MouthRiddles x, int saying, int... by) {
        for (int thing = 0; thing < by.length; thing++) {
            due(promise, "fits(" + saying + ", " + thing + ")", x.fits(saying, thing), by[thing]);
        }
    }

    private static void fits() {
        MouthRiddles x = new MouthRiddles();
        x.thing(1);
        x.thing(2);
        x.thing(4);
        x.thing(6);
        x.thing(7);
        x.thing(0);
        x.sense(0, 0);
        x.sense(0, 1);
        x.sense(0, 2);
        for (int kind = 0; kind < 6; kind++) x.saying(kind, 0, 2);
        row(7, x, SAYING, 0, 1, 2, 1, 0, NONE);
        row(7, x, PLAIN, 0, NONE, NONE, NONE, 0, NONE);
        row(7, x, BORROWED, NONE, 1, 2, 1, 1, NONE);
        row(7, x, FIGHTING, NONE, 1, 2, 1, NONE, NONE);
        row(7, x, COUNTED, NONE, NONE, NONE, 1, 0, NONE);
        row(7, x, KNOWN, NONE, NONE, 0, NONE, NONE, NONE);
        for (int kind = 0; kind < 5; kind++) {
            int bare = x.saying(kind, 9, 0);
            row(7, x, bare, NONE, NONE, NONE, NONE, NONE, NONE);
        }
        int known = x.saying(KNOWN, 9, 5);
        row(7, x, known, NONE, NONE, NONE, NONE, NONE, 0);
        int later = x.saying(KNOWN, 9, 6);
        row(7, x, later, NONE, NONE, NONE, NONE, NONE, NONE);
        int lastOne = x.saying(KNOWN, 9, 23);
        row(7, x, lastOne, NONE, NONE, NONE, NONE, NONE, NONE);
        due(7, "thing(0)", x.thing(0), 6);
        due(7, "a known thing that came later", x.fits(later, 6), 0);
        int late = x.saying(SAYING, 4, 0);
        row(7, x, late, NONE, NONE, NONE, NONE, NONE, NONE, NONE);
        x.sense(4, 2);
        row(7, x, late, NONE, NONE, 0, 0, 0, NONE, NONE);
        refused(7, "fits(0, 7)", x, o -> o.fits(0, 7), UNKNOWN);
        refused(7, "fits(0, -1)", x, o -> o.fits(0, -1), UNKNOWN);
        refused(7, "fits(-1, 0)", x, o -> o.fits(-1, 0), UNKNOWN);
        refused(7, "fits(20, 0)", x, o -> o.fits(20, 0), UNKNOWN);
        countedEdges();
    }

    private static void countedEdges() {
        MouthRiddles x = new MouthRiddles();
        x.thing(16777215);
        x.thing(16777215 - 2);
        x.thing(16777215 - 6);
        x.sense(0, 0);
        row(7, x, x.saying(COUNTED, 0, 23), 0, 0, NONE);
        row(7, x, x.saying(COUNTED, 0, 22), 0, 0, 0);
        row(7, x, x.saying(COUNTED, 0, 0), 0, 0, 0);
        row(7, x, x.saying(COUNTED, 1, 0), NONE, NONE, NONE);
    }

    private static void riddle() {
        MouthRiddles x = told();
        x.saying(SAYING, 0, 0);
        for (int i = 0; i < 10; i++) due(8, "riddle(0)", x.riddle(0), i);
        refused(8, "the 11th riddle", x, o -> o.riddle(0), FULL);
        refused(8, "the 11th riddle, unknown", x, o -> o.riddle(1), UNKNOWN);
        MouthRiddles y = told();
        refused(8, "riddle(0) without sayings", y, o -> o.riddle(0), UNKNOWN);
        refused(8, "riddle(-1)", y, o -> o.riddle(-1), UNKNOWN);
        y.saying(SAYING, 0, 0);
        y.riddle(0);
        due(8, "said(0, 0)", y.said(0, 0), 0);
        due(8, "said(0, 1)", y.said(0, 1), NONE);
    }

    private static void more() {
        MouthRiddles x = told();
        x.saying(SAYING, 0, 0);
        x.saying(SAYING, 1, 0);
        x.riddle(0);
        x.riddle(1);
        for (int i = 2; i <= 6; i++) due(9, "more(0, 1)", x.more(0, 1), i);
        refused(9, "a 7th saying", x, o -> o.more(0, 1), FULL);
        refused(9, "a 7th saying, unknown", x, o -> o.more(0, 2), UNKNOWN);
        refused(9, "more(2, 0)", x, o -> o.more(2, 0), UNKNOWN);
        refused(9, "more(-1, 0)", x, o -> o.more(-1, 0), UNKNOWN);
        refused(9, "more(1, -1)", x, o -> o.more(1, -1), UNKNOWN);
        due(9, "more(1, 0)", x.more(1, 0), 2);
    }

    private static void said() {
        MouthRiddles x = told();
        for (int i = 0; i < 6; i++) x.saying(SAYING, 0, 0);
        x.riddle(5);
        for (int i = 4; i >= 0; i--) x.more(0, i);
        for (int i = 0; i < 6; i++) due(10, "said(0, " + i + ")", x.said(0, i), 5 - i);
        due(10, "said(0, 6)", x.said(0, 6), NONE);
        due(10, "said(0, -1)", x.said(0, -1), NONE);
        due(10, "said(0, MAX)", x.said(0, MAX), NONE);
        x.riddle(3);
        due(10, "said(1, 1)", x.said(1, 1), NONE);
        refused(10, "said(2, 0)", x, o -> o.said(2, 0), UNKNOWN);
        refused(10, "said(-1, 9)", x, o -> o.said(-1, 9), UNKNOWN);
    }

    private static void answers() {
        MouthRiddles x = told();
        x.saying(SAYING, 0, 0);
        x.saying(BORROWED, 0, 0);
        x.saying(PLAIN, 0, 0);
        x.riddle(0);
        due(11, "answers(0)", x.answers(0), 7);
        x.more(0, 1);
        due(11, "answers(0) of two sayings", x.answers(0), 6);
        x.more(0, 2);
        due(11, "answers(0) of three sayings", x.answers(0), 4);
        x.thing(3);
        due(11, "answers(0) with one thing more", x.answers(0), 20);
        x.saying(SAYING, 2, 0);
        x.more(0, 3);
        due(11, "answers(0) with a word without senses", x.answers(0), 0);
        x.sense(2, 2);
        due(11, "answers(0) when the word has a sense", x.answers(0), 4);
        refused(11, "answers(1)", x, o -> o.answers(1), UNKNOWN);
        refused(11, "answers(-1)", x, o -> o.answers(-1), UNKNOWN);
        MouthRiddles y = new MouthRiddles();
        y.saying(KNOWN, 0, 11);
        y.riddle(0);
        for (int i = 0; i < 12; i++) y.thing(0);
        due(11, "answers(0) of the last thing", y.answers(0), 1 << 11);
    }

    private static void turns() {
        MouthRiddles x = told();
        x.saying(SAYING, 0, 0);
        x.saying(BORROWED, 0, 0);
        x.saying(KNOWN, 0, 1);
        x.riddle(0);
        due(12, "turns(0, 0)", x.turns(0, 0), 0);
        due(12, "turns(0, 1)", x.turns(0, 1), 1);
        due(12, "turns(0, 3)", x.turns(0, 3), NONE);
        x.more(0, 1);
        x.more(0, 1);
        due(12, "turns(0, 0) of three", x.turns(0, 0), NONE);
        due(12, "turns(0, 1) of three", x.turns(0, 1), 3);
        due(12, "turns(0, 2) of three", x.turns(0, 2), 2);
        x.more(0, 2);
        due(12, "turns(0, 1) of four", x.turns(0, 1), 3);
        refused(12, "turns(1, 0)", x, o -> o.turns(1, 0), UNKNOWN);
        refused(12, "turns(0, 4)", x, o -> o.turns(0, 4), UNKNOWN);
        refused(12, "turns(0, -1)", x, o -> o.turns(0, -1), UNKNOWN);
        refused(12, "turns(-1, 0)", x, o -> o.turns(-1, 0), UNKNOWN);
    }

    private static void judge() {
        MouthRiddles x = told();
        x.thing(1);
        x.saying(SAYING, 0, 0);
        x.riddle(0);
        due(13, "fewer turns", x.judge(0, 1, 0), 0);
        due(13, "fewer turns, the greater one", x.judge(0, 1, 2), 2);
        due(13, "like turns", x.judge(0, 2, 0), 0);
        due(13, "like turns, lesser first", x.judge(0, 0, 4), 0);
        due(13, "an answer and none", x.judge(0, 1, 3), 1);
        due(13, "none and an answer", x.judge(0, 3, 4), 4);
        due(13, "twice none", x.judge(0, 3, 3), NONE);
        due(13, "the same one twice", x.judge(0, 1, 1), 1);
        refused(13, "judge(1, 0, 0)", x, o -> o.judge(1, 0, 0), UNKNOWN);
        refused(13, "judge(0, 5, 0)", x, o -> o.judge(0, 5, 0), UNKNOWN);
        refused(13, "judge(0, 0, 5)", x, o -> o.judge(0, 0, 5), UNKNOWN);
        refused(13, "judge(0, -1, 0)", x, o -> o.judge(0, -1, 0), UNKNOWN);
        refused(13, "judge(0, 0, MIN)", x, o -> o.judge(0, 0, MIN), UNKNOWN);
    }

    private static void astray() {
        MouthRiddles x = told();
        x.saying(SAYING, 0, 0);
        x.saying(PLAIN, 0, 0);
        x.saying(BORROWED, 0, 0);
        x.riddle(1);
        due(14, "astray(0, 0) of one saying", x.astray(0, 0), 0);
        due(14, "astray(0, 1) of one saying: all things", x.astray(0, 1), 4);
        x.more(0, 0);
        due(14, "astray(0, 0)", x.astray(0, 0), 0);
        due(14, "astray(0, 1)", x.astray(0, 1), 3);
        x.riddle(0);
        x.more(1, 2);
        due(14, "astray(1, 0)", x.astray(1, 0), 1);
        due(14, "astray(1, 1)", x.astray(1, 1), 3);
        x.riddle(1);
        x.more(2, 2);
        due(14, "of like ones the first", x.astray(2, 0), 0);
        due(14, "of like ones the first: how many", x.astray(2, 1), 2);
        x.riddle(2);
        x.more(3, 1);
        x.more(3, 2);
        due(14, "without one of two alike the other stands", x.astray(3, 0), 1);
        due(14, "without one of two alike: how many", x.astray(3, 1), 2);
        refused(14, "astray(4, 2)", x, o -> o.astray(4, 2), UNKNOWN);
        refused(14, "astray(-1, 0)", x, o -> o.astray(-1, 0), UNKNOWN);
        refused(14, "astray(0, 2)", x, o -> o.astray(0, 2), OUTSIDE);
        refused(14, "astray(0, -1)", x, o -> o.astray(0, -1), OUTSIDE);
    }

    private static void made() {
        MouthRiddles x = told();
        due(15, "made(0, 6) without sayings", x.made(0, 6), NONE);
        x.saying(PLAIN, 0, 0);
        x.saying(BORROWED, 0, 0);
        x.saying(SAYING, 0, 0);
        due(15, "two sayings part one thing", x.made(2, 2), 3);
        due(15, "one saying is too few", x.made(2, 1), NONE);
        due(15, "a thing that nothing fits", x.made(3, 6), NONE);
        due(15, "a thing that is never alone", x.made(0, 6), NONE);
        x.saying(FIGHTING, 0, 0);
        due(15, "one saying does", x.made(1, 6), 8);
        x.saying(KNOWN, 0, 1);
        due(15, "of like ones that of most turns", x.made(1, 6), 8);
        x.saying(FIGHTING, 0, 3);
        due(15, "of like ones that of least bits", x.made(1, 6), 8);
        due(15, "count(8)", x.count(8), 8);
        refused(15, "made(4, 0)", x, o -> o.made(4, 0), UNKNOWN);
        refused(15, "made(-1, 1)", x, o -> o.made(-1, 1), UNKNOWN);
        refused(15, "made(0, 0)", x, o -> o.made(0, 0), OUTSIDE);
        refused(15, "made(0, 7)", x, o -> o.made(0, 7), OUTSIDE);
        MouthRiddles y = new MouthRiddles();
        y.thing(3);
        y.sense(0, 0);
        y.sense(1, 2);
        y.sense(1, 1);
        y.saying(SAYING, 0, 0);
        due(15, "the only thing there is", y.made(0, 1), 1);
        y.saying(SAYING, 1, 0);
        due(15, "more turns, though greater bits", y.made(0, 1), 2);
    }

    private static void madeOften() {
        MouthRiddles x = new MouthRiddles();
        // Saying i leaves out thing i alone, so that a thing is alone only behind the six other sayings.
        for (int thing = 0; thing < 7; thing++) x.thing(127 & ~(1 << thing));
        for (int word = 0; word < 7; word++) {
            x.sense(word, word);
            x.saying(SAYING, word, 0);
        }
        due(15, "six sayings", x.made(6, 6), 63);
        due(15, "five are too few", x.made(6, 5), NONE);
        due(15, "six others", x.made(0, 6), 126);
        for (int i = 3; i < 20; i++) due(15, "made() again", x.made(3, 6), 119);
        refused(15, "the 21st made()", x, o -> o.made(3, 6), STATE);
        refused(15, "the 21st made(), outside", x, o -> o.made(3, 7), OUTSIDE);
        refused(15, "the 21st made(), unknown", x, o -> o.made(7, 7), UNKNOWN);
        due(15, "count(8)", x.count(8), 20);
    }

    private static void madeOfMany() {
        MouthRiddles x = new MouthRiddles();
        // Sayings 0 and 3 part thing 0 from all others, and so do 1 and 2; no other two sayings do.
        for (int traits : new int[] {15, 3, 5, 10, 12}) x.thing(traits);
        for (int word = 0; word < 4; word++) {
            x.sense(word, word);
            x.saying(SAYING, word, 0);
        }
        due(15, "of like pairs that of least bits", x.made(0, 6), 6);
        MouthRiddles y = new MouthRiddles();
        y.thing(3);
        y.thing(1);
        y.sense(0, 0);
        y.sense(1, 1);
        for (int i = 0; i < 19; i++) y.saying(SAYING, 0, 0);
        y.saying(SAYING, 1, 0);
        due(15, "the last of twenty sayings", y.made(0, 6), 1 << 19);
        due(15, "nineteen that fit both", y.made(1, 6), NONE);
        y.thing(3);
        due(15, "twenty that fit both", y.made(0, 6), NONE);
    }

    private static void head() {
        MouthRiddles x = new MouthRiddles();
        due(16, "head(0, 0)", x.head(0, 0), 0);
        due(16, "head(99, 99)", x.head(99, 99), 1);
        refused(16, "head(100, 0)", x, o -> o.head(100, 0), OUTSIDE);
        refused(16, "head(0, 100)", x, o -> o.head(0, 100), OUTSIDE);
        refused(16, "head(-1, 0)", x, o -> o.head(-1, 0), OUTSIDE);
        refused(16, "head(0, -1)", x, o -> o.head(0, -1), OUTSIDE);
        for (int i = 2; i < 6; i++) due(16, "head(1, 1)", x.head(1, 1), i);
        refused(16, "the 7th head", x, o -> o.head(1, 1), FULL);
        refused(16, "the 7th head, outside", x, o -> o.head(1, 100), OUTSIDE);
    }

    private static void heard(MouthRiddles x, int head, int riddle, int thing, int second) {
        due(17, "hears(" + head + ", " + riddle + ", 0)", x.hears(head, riddle, 0), thing);
        due(17, "hears(" + head + ", " + riddle + ", 1)", x.hears(head, riddle, 1), second);
    }

    private static void hears() {
        MouthRiddles x = new MouthRiddles();
        x.thing(1);
        x.thing(2);
        x.thing(4);
        x.thing(5);
        x.sense(0, 1);
        x.sense(0, 0);
        x.sense(1, 3);
        x.sense(1, 4);
        x.sense(1, 1);
        x.saying(SAYING, 0, 0);
        x.saying(BORROWED, 0, 0);
        x.saying(SAYING, 1, 0);
        x.saying(KNOWN, 9, 3);
        x.head(3, 10);
        x.head(0, 0);
        x.head(99, 99);
        x.head(0, 7);
        for (int i = 0; i < 4; i++) x.riddle(i);
        heard(x, 0, 0, 1, 3);
        heard(x, 1, 0, NONE, NONE);
        heard(x, 2, 0, 1, 99);
        heard(x, 3, 0, 1, 0);
        heard(x, 0, 1, NONE, NONE);
        heard(x, 0, 2, 1, 23);
        heard(x, 1, 2, 1, 0);
        heard(x, 2, 2, 1, 297);
        heard(x, 3, 2, 1, 14);
        for (int head = 0; head < 4; head++) heard(x, head, 3, 3, 0);
        refused(17, "hears(4, 0, 2)", x, o -> o.hears(4, 0, 2), UNKNOWN);
        refused(17, "hears(0, 4, 2)", x, o -> o.hears(0, 4, 2), UNKNOWN);
        refused(17, "hears(-1, 0, 0)", x, o -> o.hears(-1, 0, 0), UNKNOWN);
        refused(17, "hears(0, -1, 0)", x, o -> o.hears(0, -1, 0), UNKNOWN);
        refused(17, "hears(0, 0, 2)", x, o -> o.hears(0, 0, 2), OUTSIDE);
        refused(17, "hears(0, 0, -1)", x, o -> o.hears(0, 0, -1), OUTSIDE);
        fightingHeard();
    }

    /** A fighting asks for the plain trait before a head has come to that sense, too. */
    private static void fightingHeard() {
        MouthRiddles x = new MouthRiddles();
        x.thing(3);
        x.thing(2);
        x.sense(0, 0);
        x.sense(0, 1);
        x.saying(FIGHTING, 0, 0);
        x.riddle(0);
        x.head(5, 20);
        heard(x, 0, 0, 1, 25);
        MouthRiddles y = new MouthRiddles();
        y.saying(SAYING, 0, 0);
        y.riddle(0);
        y.head(0, 0);
        heard(y, 0, 0, NONE, NONE);
    }

    private static MouthRiddles parting() {
        MouthRiddles x = new MouthRiddles();
        x.thing(1);
        x.thing(2);
        x.thing(6);
        x.sense(0, 0);
        x.sense(0, 1);
        x.saying(KNOWN, 0, 2);
        x.saying(SAYING, 0, 0);
        x.saying(BORROWED, 0, 0);
        return x;
    }

    private static void parts() {
        MouthRiddles x = parting();
        due(18, "parts(0) without riddles", x.parts(0), NONE);
        due(18, "parts(1) without riddles", x.parts(1), NONE);
        refused(18, "parts(2) without riddles", x, o -> o.parts(2), OUTSIDE);
        x.riddle(2);
        due(18, "parts(0) without heads", x.parts(0), 0);
        due(18, "parts(1) without heads", x.parts(1), 0);
        x.riddle(0);
        x.riddle(1);
        x.riddle(1);
        x.head(1, 0);
        x.head(1, 1);
        x.head(2, 3);
        // Head 0 sees both senses at once and never answers the third riddle; the others answer thing 0.
        due(18, "parts(0)", x.parts(0), 2);
        due(18, "parts(1)", x.parts(1), 2);
        x.head(0, 0);
        due(18, "parts(1) with one head more", x.parts(1), 4);
        refused(18, "parts(-1)", x, o -> o.parts(-1), OUTSIDE);
        refused(18, "parts(2)", x, o -> o.parts(2), OUTSIDE);
    }

    private static void blind() {
        MouthRiddles x = parting();
        x.riddle(1);
        x.riddle(0);
        due(19, "blind(0, 0) without heads", x.blind(0, 0), 0);
        x.head(1, 0);
        x.head(1, 1);
        x.head(2, 3);
        due(19, "blind(0, 0)", x.blind(0, 0), 1);
        due(19, "blind(0, 1)", x.blind(0, 1), 3);
        due(19, "blind(1, 2)", x.blind(1, 2), 0);
        due(19, "blind(1, 0)", x.blind(1, 0), 3);
        refused(19, "blind(2, 0)", x, o -> o.blind(2, 0), UNKNOWN);
        refused(19, "blind(0, 3)", x, o -> o.blind(0, 3), UNKNOWN);
        refused(19, "blind(0, -1)", x, o -> o.blind(0, -1), UNKNOWN);
        refused(19, "blind(-1, 0)", x, o -> o.blind(-1, 0), UNKNOWN);
    }

    private static void tongue() {
        MouthRiddles x = told();
        x.saying(SAYING, 0, 0);
        x.riddle(0);
        for (int i = 0; i < 4; i++) due(20, "tongue()", x.tongue(), i);
        refused(20, "the 5th tongue", x, o -> o.tongue(), FULL);
        for (int i = 0; i < 4; i++) {
            due(20, "a new tongue has all senses", x.goes(0, 2, i, 1), 0);
            for (int sense = 0; sense < 3; sense++) due(20, "and lacks none", x.lack(i, 0, sense, false), 0);
        }
    }

    private static void lack() {
        MouthRiddles x = told();
        x.tongue();
        x.tongue();
        due(21, "lack(0, 0, 0, true)", x.lack(0, 0, 0, true), 0);
        due(21, "lack(0, 0, 0, true) again", x.lack(0, 0, 0, true), 1);
        due(21, "lack(1, 0, 0, false)", x.lack(1, 0, 0, false), 0);
        due(21, "lack(0, 0, 1, true)", x.lack(0, 0, 1, true), 0);
        due(21, "lack(0, 0, 0, false)", x.lack(0, 0, 0, false), 1);
        due(21, "lack(0, 0, 0, false) again", x.lack(0, 0, 0, false), 0);
        due(21, "lack(0, 0, 1, true) still", x.lack(0, 0, 1, true), 1);
        due(21, "lack(1, 15, 2, true), a sense that is not there", x.lack(1, 15, 2, true), 0);
        due(21, "lack(1, 15, 2, false)", x.lack(1, 15, 2, false), 1);
        refused(21, "lack(2, 0, 3, true)", x, o -> o.lack(2, 0, 3, true), UNKNOWN);
        refused(21, "lack(-1, 0, 0, true)", x, o -> o.lack(-1, 0, 0, true), UNKNOWN);
        refused(21, "lack(0, 16, 3, true)", x, o -> o.lack(0, 16, 3, true), UNKNOWN);
        refused(21, "lack(0, -1, 0, true)", x, o -> o.lack(0, -1, 0, true), UNKNOWN);
        refused(21, "lack(0, 0, 3, true)", x, o -> o.lack(0, 0, 3, true), OUTSIDE);
        refused(21, "lack(0, 0, -1, true)", x, o -> o.lack(0, 0, -1, true), OUTSIDE);
    }

    private static void goes() {
        MouthRiddles x = told();
        x.saying(SAYING, 0, 0);
        x.saying(PLAIN, 0, 0);
        x.saying(FIGHTING, 0, 0);
        x.saying(KNOWN, 0, 3);
        x.riddle(0);
        x.riddle(1);
        x.more(1, 0);
        x.riddle(2);
        x.riddle(3);
        x.tongue();
        x.tongue();
        due(22, "several answers", x.goes(0, 0, 0, 0), 0);
        due(22, "several answers: lacks", x.goes(0, 0, 0, 1), 0);
        due(22, "none that is told", x.goes(0, 3, 0, 1), 1);
        x.lack(0, 0, 0, true);
        x.lack(0, 0, 1, true);
        due(22, "by the third sense alone", x.goes(0, 2, 0, 0), 1);
        due(22, "for another thing", x.goes(0, 1, 0, 0), 0);
        due(22, "for another thing: lacks", x.goes(0, 1, 0, 1), 1);
        due(22, "both sayings lack", x.goes(1, 0, 0, 1), 2);
        due(22, "one saying lacks", x.goes(1, 2, 0, 1), 1);
        due(22, "in the other tongue", x.goes(1, 2, 1, 1), 0);
        due(22, "a fighting in a whole tongue", x.goes(2, 1, 1, 0), 1);
        x.lack(0, 0, 1, false);
        due(22, "a fighting without the plain sense asks for the trait", x.goes(2, 1, 0, 0), 1);
        due(22, "a known needs no sense", x.goes(3, 3, 0, 0), 1);
        due(22, "a known needs no sense: lacks", x.goes(3, 3, 0, 1), 0);
        refused(22, "goes(4, 0, 0, 2)", x, o -> o.goes(4, 0, 0, 2), UNKNOWN);
        refused(22, "goes(0, 4, 0, 2)", x, o -> o.goes(0, 4, 0, 2), UNKNOWN);
        refused(22, "goes(0, 0, 2, 2)", x, o -> o.goes(0, 0, 2, 2), UNKNOWN);
        refused(22, "goes(-1, 0, 0, 0)", x, o -> o.goes(-1, 0, 0, 0), UNKNOWN);
        refused(22, "goes(0, -1, 0, 0)", x, o -> o.goes(0, -1, 0, 0), UNKNOWN);
        refused(22, "goes(0, 0, -1, 0)", x, o -> o.goes(0, 0, -1, 0), UNKNOWN);
        refused(22, "goes(0, 0, 0, 2)", x, o -> o.goes(0, 0, 0, 2), OUTSIDE);
        refused(22, "goes(0, 0, 0, -1)", x, o -> o.goes(0, 0, 0, -1), OUTSIDE);
    }

    private static void nearest() {
        MouthRiddles x = told();
        x.saying(PLAIN, 0, 0);
        x.saying(BORROWED, 0, 0);
        x.riddle(0);
        x.more(0, 1);
        due(23, "nearest(0, 2) without tongues", x.nearest(0, 2), NONE);
        for (int i = 0; i < 3; i++) x.tongue();
        due(23, "of like ones the least", x.nearest(0, 2), 0);
        x.lack(0, 0, 0, true);
        x.lack(0, 0, 1, true);
        x.lack(0, 0, 2, true);
        x.lack(1, 0, 0, true);
        x.lack(2, 0, 0, true);
        due(23, "the one of least lacks", x.nearest(0, 2), 1);
        x.lack(2, 0, 0, false);
        due(23, "the last one", x.nearest(0, 2), 2);
        due(23, "a thing that nothing fits", x.nearest(0, 3), 0);
        refused(23, "nearest(1, 0)", x, o -> o.nearest(1, 0), UNKNOWN);
        refused(23, "nearest(0, 4)", x, o -> o.nearest(0, 4), UNKNOWN);
        refused(23, "nearest(-1, 0)", x, o -> o.nearest(-1, 0), UNKNOWN);
        refused(23, "nearest(0, -1)", x, o -> o.nearest(0, -1), UNKNOWN);
    }

    private static long word(String letters) {
        long w = 0;
        for (int i = 0; i < letters.length(); i++) w |= (long) letters.charAt(i) << 8 * i;
        return w;
    }

    private static void write(MouthRiddles x, String text) {
        for (int i = 0; i < text.length(); i += 8) x.letters(word(text.substring(i, Math.min(text.length(), i + 8))));
    }

    private static void letters() {
        MouthRiddles x = new MouthRiddles();
        due(24, "letters(0)", x.letters(0), 0);
        due(24, "one letter", x.letters(1), 1);
        due(24, "a letter of code 126", x.letters(126), 2);
        due(24, "eight letters", x.letters(word("(a,b,c,d")), 10);
        refused(24, "a byte of 127", x, o -> o.letters(127), OUTSIDE);
        refused(24, "a byte of 128", x, o -> o.letters(128), OUTSIDE);
        refused(24, "a byte of 255 at the end", x, o -> o.letters(word("abcdefg") | 255L << 56), OUTSIDE);
        refused(24, "a letter behind a 0", x, o -> o.letters(97L << 8), OUTSIDE);
        refused(24, "a letter far behind a 0", x, o -> o.letters(97L | 97L << 56), OUTSIDE);
        refused(24, "letters(-1)", x, o -> o.letters(-1), OUTSIDE);
        refused(24, "letters(Long.MIN_VALUE)", x, o -> o.letters(Long.MIN_VALUE), OUTSIDE);
        for (int i = 18; i <= 34; i += 8) due(24, "eight more", x.letters(word("abcdefgh")), i);
        refused(24, "letters beyond 40", x, o -> o.letters(word("abcdefg")), FULL);
        due(24, "letters up to 40", x.letters(word("abcdef")), 40);
        refused(24, "the 41st letter", x, o -> o.letters(97), FULL);
        refused(24, "the 41st letter, outside", x, o -> o.letters(127), OUTSIDE);
        due(24, "no letter behind 40", x.letters(0), 40);
        due(24, "count(7)", x.count(7), 40);
    }

    private static void blank() {
        MouthRiddles x = new MouthRiddles();
        due(25, "blank() of an empty page", x.blank(), 0);
        write(x, "(a,b)");
        due(25, "blank()", x.blank(), 5);
        due(25, "blank() again", x.blank(), 0);
        due(25, "count(7)", x.count(7), 0);
        write(x, "c");
        due(25, "tree() of what came later", x.tree(), 1);
    }

    private static void faulty(String text, int place) {
        MouthRiddles x = new MouthRiddles();
        write(x, text);
        refused(26, "fault() of " + text, x, o -> o.fault(), place);
    }

    private static void fault() {
        faulty("", 0);
        faulty("a", 1);
        faulty("h", 1);
        faulty("i", 0);
        faulty("A", 0);
        faulty(" ", 0);
        faulty(",", 0);
        faulty(")", 0);
        faulty("(", 1);
        faulty("aa", 1);
        faulty("a,", 1);
        faulty("a)", 1);
        faulty("a(", 1);
        faulty("()", 1);
        faulty("(,", 1);
        faulty("(a)", 2);
        faulty("(a,b)", 5);
        faulty("(a,b),", 5);
        faulty("(a,b))", 5);
        faulty("(a,a)", 3);
        faulty("(ab", 2);
        faulty("(a,)", 3);
        faulty("(a,,", 3);
        faulty("(a(", 2);
        faulty("(a,b,c,d)", 9);
        faulty("(a,b,c,d,", 8);
        faulty("(a,(b,c),d,(e,f),", 16);
        faulty("((a,b)", 6);
        faulty("((a,b))", 6);
        faulty("((a,b),(a,", 8);
        faulty("((a,b,c,d),(e,f,g,h),", 21);
        faulty("((a,b,c,d),(e,f,g,h),(", 22);
        faulty("((a,b,c,d),(e,f,g,h),(a", 22);
        faulty("((a,b,c,d),(e,f,g,h),i", 21);
        faulty("((((((((((((((((((((((((((((((((((((((((", 40);
        faulty("(((((((((((((((((((((((((((((((((((((((,", 39);
        faulty("(((((((((((((((((((((((((((((((((((((a,b", 40);
    }

    private static void readAs(String text, int nodes) {
        MouthRiddles x = new MouthRiddles();
        write(x, text);
        if (nodes == STATE) {
            refused(27, "tree() of " + text, x, o -> o.tree(), STATE);
            return;
        }
        due(27, "tree() of " + text, x.tree(), nodes);
        due(27, "the page behind " + text, x.count(7), 0);
        due(27, "count(6) of " + text, x.count(6), nodes);
    }

    private static void tree() {
        readAs("", STATE);
        readAs("i", STATE);
        readAs("(a,b", STATE);
        readAs("(a)", STATE);
        readAs("(a,b)c", STATE);
        readAs("(a,a)", STATE);
        readAs("((a,b,c,d),(e,f,g,h),", STATE);
        readAs("(a,b,c,d,e)", STATE);
        readAs("a", 1);
        readAs("(h,a)", 3);
        readAs("(a,b,c,d)", 5);
        readAs("((a,b,c,d),(e,f,g,h))", 11);
        readAs("(((((((a,b),c),d),e),f),g),h)", 15);
        readAs("(a,(b,(c,(d,(e,(f,(g,h)))))))", 15);
        MouthRiddles x = new MouthRiddles();
        write(x, "(a,b)");
        x.tree();
        write(x, "(a,b");
        refused(27, "tree() of no tree", x, o -> o.tree(), STATE);
        due(27, "the old tree stays", x.count(6), 3);
        due(27, "the page stays", x.count(7), 4);
        refused(27, "fault() behind a tree", x, o -> o.fault(), 4);
        write(x, ",c)");
        due(27, "another tree", x.tree(), 4);
        x.variant(2, 5);
        due(27, "the old tree is gone", x.changes(13), 5);
        due(27, "tree() of the emptied page", x.tree(), STATE);
        due(27, "count(6)", x.count(6), 4);
    }

    private static void variant() {
        MouthRiddles x = new MouthRiddles();
        due(28, "variant(0, 0)", x.variant(0, 0), NONE);
        due(28, "variant(0, 7)", x.variant(0, 7), 0);
        due(28, "variant(0, NONE)", x.variant(0, NONE), 7);
        due(28, "variant(0, 1)", x.variant(0, 1), NONE);
        due(28, "variant(7, 2)", x.variant(7, 2), NONE);
        due(28, "variant(7, 3)", x.variant(7, 3), 2);
        refused(28, "variant(8, 8)", x, o -> o.variant(8, 8), UNKNOWN);
        refused(28, "variant(-1, 0)", x, o -> o.variant(-1, 0), UNKNOWN);
        refused(28, "variant(MIN, 0)", x, o -> o.variant(MIN, 0), UNKNOWN);
        refused(28, "variant(0, 8)", x, o -> o.variant(0, 8), OUTSIDE);
        refused(28, "variant(0, -2)", x, o -> o.variant(0, -2), OUTSIDE);
        due(28, "variant(0, 1) still", x.variant(0, 1), 1);
    }

    private static MouthRiddles landed(String text, int... variants) {
        MouthRiddles x = new MouthRiddles();
        write(x, text);
        x.tree();
        for (int land = 0; land < variants.length; land++) x.variant(land, variants[land]);
        return x;
    }

    private static void sures(MouthRiddles x, int least, int... sure) {
        due(29, "changes(0)", x.changes(0), least);
        for (int i = 0; i < sure.length; i++) due(29, "changes(" + (10 + i) + ")", x.changes(10 + i), sure[i]);
        due(29, "changes() of no node", x.changes(10 + sure.length), NONE);
    }

    private static void changes() {
        MouthRiddles x = new MouthRiddles();
        refused(29, "changes(1) without a tree", x, o -> o.changes(1), OUTSIDE);
        refused(29, "changes(0) without a tree", x, o -> o.changes(0), STATE);
        refused(29, "changes(39) without a tree", x, o -> o.changes(39), STATE);
        write(x, "(a,b)");
        refused(29, "changes(0) with a page alone", x, o -> o.changes(0), STATE);
        sures(landed("a"), 0, NONE);
        sures(landed("a", 7), 0, 7);
        sures(landed("(a,b)"), 0, NONE, NONE, NONE);
        sures(landed("(a,b)", 4), 0, 4, 4, 4);
        sures(landed("(a,b)", 4, 5), 1, NONE, 4, 5);
        sures(landed("(a,b,c)", 4, 5, 5), 1, 5, 4, 5, 5);
        sures(landed("(a,b,c,d)", 4, 5, 5, 4), 2, NONE, 4, 5, 5, 4);
        sures(landed("((a,b),(c,d))", 1, 1, 2, 3), 2, NONE, 1, 1, 1, NONE, 2, 3);
        sures(landed("((a,b),(c,d))", 1, 2, 2, 2), 1, 2, 2, 1, 2, 2, 2, 2);
        sures(landed("((a,b),c)", 1, 2, NONE), 1, NONE, NONE, 1, 2, NONE);
        sures(landed("((a,b),(c,d))", 0, 0, 1, 1), 1, NONE, 0, 0, 0, 1, 1, 1);
        sures(landed("(a,b,c,d)", 0, 1, 2, 3), 3, NONE, 0, 1, 2, 3);
        MouthRiddles y = landed("(a,b)", 1, 1);
        due(29, "changes(39)", y.changes(39), NONE);
        refused(29, "changes(40)", y, o -> o.changes(40), OUTSIDE);
        refused(29, "changes(9)", y, o -> o.changes(9), OUTSIDE);
        refused(29, "changes(-1)", y, o -> o.changes(-1), OUTSIDE);
        refused(29, "changes(MAX)", y, o -> o.changes(MAX), OUTSIDE);
        refused(29, "changes(MIN)", y, o -> o.changes(MIN), OUTSIDE);
    }

    /** The tree ((a,b),(c,d),e): all ways of its three inner nodes and one land, counted one by one. */
    private static void changesInAllWays() {
        int[] above = {NONE, 0, 1, 1, 0, 4, 4, 0};
        for (int deal = 0; deal < 256; deal++) {
            int[] has = {NONE, NONE, deal & 3, deal >> 2 & 3, NONE, deal >> 4 & 3, NONE, deal >> 6 & 3};
            int least = 99;
            int[] seen = new int[8];
            for (int way = 0; way < 4096; way++) {
                int[] v = has.clone();
                v[0] = way & 7;
                v[1] = way >> 3 & 7;
                v[4] = way >> 6 & 7;
                v[6] = way >> 9 & 7;
                int changes = 0;
                for (int node = 1; node < 8; node++) if (v[node] != v[above[node]]) changes++;
                if (changes < least) {
                    least = changes;
                    seen = new int[8];
                }
                if (changes == least) for (int node = 0; node < 8; node++) seen[node] |= 1 << v[node];
            }
            int[] sure = new int[8];
            for (int node = 0; node < 8; node++) {
                sure[node] = Integer.bitCount(seen[node]) == 1 ? Integer.numberOfTrailingZeros(seen[node]) : NONE;
            }
            sures(landed("((a,b),(c,d),e)", has[2], has[3], has[5], NONE, has[7]), least, sure);
        }
    }

    private static void share(MouthRiddles x, int above, int below) {
        due(30, "chance(0)", x.chance(0), above);
        due(30, "chance(1)", x.chance(1), below);
    }

    private static void chance() {
        MouthRiddles x = new MouthRiddles();
        refused(30, "chance(2) without a tree", x, o -> o.chance(2), OUTSIDE);
        refused(30, "chance(0) without a tree", x, o -> o.chance(0), STATE);
        due(30, "count(9)", x.count(9), 0);
        share(landed("a"), 1, 1);
        share(landed("(a,b)", 1, 2), 1, 1);
        // Two pairs of like variants: of three ways to pair four lands one keeps both together.
        share(landed("((a,b),(c,d))", 1, 1, 2, 2), 1, 3);
        share(landed("((a,b),(c,d))", 1, 2, 1, 2), 1, 1);
        // Lands without a variant stay so, and lands that are not of the tree deal nothing.
        share(landed("((a,b),(c,d),e)", 1, 1, 2, 2, NONE, 3, 3, 3), 1, 3);
        share(landed("((a,b,c,d),(e,f,g,h))", 1, 1, 1, 1, 2, 2, 2, 2), 1, 35);
        share(landed("((a,b,c,d),(e,f,g,h))", 0, 1, 2, 3, 4, 5, 6, 7), 1, 1);
        share(landed("((a,b),(c,d),(e,f),(g,h))", 3, 3, 4, 4, 5, 5, 6, 6), 1, 105);
    }

    private static void chanceOften() {
        MouthRiddles x = landed("((a,b),(c,d))", 1, 1, 2, 2);
        for (int i = 0; i < 12; i++) due(30, "chance(" + i % 2 + ")", x.chance(i % 2), i % 2 == 0 ? 1 : 3);
        due(30, "count(9)", x.count(9), 12);
        refused(30, "the 13th chance()", x, o -> o.chance(0), STATE);
        refused(30, "the 13th chance(), outside", x, o -> o.chance(-1), OUTSIDE);
        MouthRiddles y = landed("((a,b),(c,d))", 1, 1, 2, 2);
        refused(30, "chance(2)", y, o -> o.chance(2), OUTSIDE);
        refused(30, "chance(MIN)", y, o -> o.chance(MIN), OUTSIDE);
        due(30, "count(9) of refused ones", y.count(9), 0);
    }

    private static MouthRiddles staked(int heads, int riddles) {
        MouthRiddles x = told();
        x.saying(SAYING, 0, 0);
        for (int i = 0; i < heads; i++) x.head(i, i);
        for (int i = 0; i < riddles; i++) x.riddle(0);
        return x;
    }

    private static void stake() {
        MouthRiddles x = staked(6, 10);
        due(31, "stake(0, 0, 999)", x.stake(0, 0, 999), 0);
        due(31, "stake(0, 0, 0)", x.stake(0, 0, 0), 999);
        due(31, "stake(5, 9, 7)", x.stake(5, 9, 7), 0);
        due(31, "stake(5, 9, 8)", x.stake(5, 9, 8), 7);
        due(31, "stake(4, 9, 1)", x.stake(4, 9, 1), 0);
        due(31, "stake(5, 8, 1)", x.stake(5, 8, 1), 0);
        refused(31, "stake(0, 0, 1000)", x, o -> o.stake(0, 0, 1000), OUTSIDE);
        refused(31, "stake(0, 0, -1)", x, o -> o.stake(0, 0, -1), OUTSIDE);
        refused(31, "stake(6, 0, 1000)", x, o -> o.stake(6, 0, 1000), UNKNOWN);
        refused(31, "stake(0, 10, 1000)", x, o -> o.stake(0, 10, 1000), UNKNOWN);
        refused(31, "stake(-1, 0, 1)", x, o -> o.stake(-1, 0, 1), UNKNOWN);
        refused(31, "stake(0, -1, 1)", x, o -> o.stake(0, -1, 1), UNKNOWN);
        refused(31, "stake(0, 0, 1) without heads", staked(0, 1), o -> o.stake(0, 0, 1), UNKNOWN);
    }

    private static void asked(MouthRiddles x, int sum, int... riddles) {
        due(32, "whom(NONE)", x.whom(NONE), sum);
        for (int head = 0; head < riddles.length; head++) due(32, "whom(" + head + ")", x.whom(head), riddles[head]);
    }

    private static void whom() {
        asked(staked(2, 0), 0, NONE, NONE);
        asked(staked(6, 10), 0, 0, 1, 2, 3, 4, 5);
        asked(staked(3, 2), 0, 0, 1, NONE);
        MouthRiddles x = staked(3, 3);
        x.stake(0, 0, 10);
        x.stake(0, 1, 9);
        x.stake(1, 0, 8);
        asked(x, 17, 1, 0, 2);
        x.stake(2, 1, 9);
        asked(x, 19, 0, 2, 1);
        MouthRiddles tied = staked(2, 2);
        tied.stake(0, 0, 5);
        tied.stake(0, 1, 5);
        tied.stake(1, 0, 5);
        tied.stake(1, 1, 5);
        asked(tied, 10, 0, 1);
        MouthRiddles one = staked(2, 1);
        one.stake(0, 0, 3);
        one.stake(1, 0, 3);
        asked(one, 3, 0, NONE);
        one.stake(1, 0, 4);
        asked(one, 4, NONE, 0);
        MouthRiddles most = staked(6, 10);
        for (int head = 0; head < 6; head++) for (int riddle = 4; riddle < 10; riddle++) most.stake(head, riddle, 999);
        asked(most, 5994, 4, 5, 6, 7, 8, 9);
        refused(32, "whom(6)", most, o -> o.whom(6), UNKNOWN);
        refused(32, "whom(-2)", most, o -> o.whom(-2), UNKNOWN);
        refused(32, "whom(MAX)", most, o -> o.whom(MAX), UNKNOWN);
        refused(32, "whom(0) without heads", staked(0, 1), o -> o.whom(0), UNKNOWN);
        refused(32, "whom(NONE) without heads", staked(0, 1), o -> o.whom(NONE), 0);
    }

    /** Something of all that is counted and told. */
    private static MouthRiddles mixed() {
        MouthRiddles x = told();
        x.saying(SAYING, 0, 0);
        x.saying(FIGHTING, 0, 4);
        x.riddle(0);
        x.more(0, 1);
        x.riddle(1);
        x.riddle(0);
        x.head(2, 3);
        x.tongue();
        x.tongue();
        x.lack(1, 0, 1, true);
        write(x, "((a,b),c)");
        x.tree();
        x.variant(0, 1);
        x.variant(1, 1);
        write(x, "(d");
        x.stake(0, 1, 77);
        x.made(1, 2);
        x.made(0, 2);
        x.made(2, 2);
        for (int i = 0; i < 4; i++) x.chance(0);
        return x;
    }

    private static void count() {
        MouthRiddles x = mixed();
        int[] want = {4, 4, 2, 3, 1, 2, 5, 2, 3, 4};
        for (int what = 0; what < 10; what++) due(33, "count(" + what + ")", x.count(what), want[what]);
        refused(33, "count(10)", x, o -> o.count(10), OUTSIDE);
        refused(33, "count(-1)", x, o -> o.count(-1), OUTSIDE);
        refused(33, "count(MAX)", x, o -> o.count(MAX), OUTSIDE);
        refused(33, "count(MIN)", x, o -> o.count(MIN), OUTSIDE);
    }

    private static long hash(int... told) {
        long h = 349;
        for (int number : told) h = 31 * h + number;
        return h;
    }

    private static void digest() {
        int[] bare = {-1, -1, -1, -1, -1, -1, -1, -1, 0, 0, 0, 0, 0, 0, 0, 0, 0, 0};
        due(34, "digest() of a new object", new MouthRiddles().digest(), hash(bare));
        due(34, "digest()", mixed().digest(), hash(
            1, 2, 7, 0,
            0, 1, 2, 3,
            0, 0, 0, 0, 1, 0, -1,
            3, 0, 4, -1, 1, -1, -1,
            0, 1, 2, 1, 5, 0,
            1, 2, 1, 5, 77,
            0, 7, -1, -1, 0,
            0, 1, 0, 1, 0, 0,
            0, 1, 0, 1, 0, 0,
            1, 1, -1, -1, -1, -1, -1, -1,
            0, 1, 1, 1, 1, 1,
            '(', 'd',
            4, 4, 2, 3, 1, 2, 5, 2, 3, 4));
        MouthRiddles x = new MouthRiddles();
        x.saying(KNOWN, 1, 2);
        x.riddle(0);
        x.tongue();
        due(34, "digest() without things tells nothing of tongues", x.digest(), hash(
            5, 1, 2, 0, 0, -1, -1, -1, -1, -1, -1, -1, -1, 0, 0, 1, 1, 0, 1, 0, 0, 0, 0));
        due(34, "digest() twice", x.digest(), x.digest());
    }
}
