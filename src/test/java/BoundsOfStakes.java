import java.util.ArrayList;
import java.util.List;
import java.util.function.Supplier;

/** Boundary cases of stakes and of what is told: promises 31 to 34, and the terms that they use. */
final class BoundsOfStakes extends Bounds {
    static void all() {
        stakes();
        stakesRefused();
        whom();
        whomOfAFew();
        whomRefused();
        counts();
        countsByCall();
        digestOfParts();
        digestOfTongues();
        digestWraps();
        digestByCalls();
    }

    private static MouthRiddles staked(int heads, int riddles, int... stakes) {
        MouthRiddles x = Fires.empty();
        x.saying(0, 0, 0);
        for (int head = 0; head < heads; head++) x.head(head, head);
        for (int riddle = 0; riddle < riddles; riddle++) x.riddle(0);
        for (int i = 0; i < stakes.length; i++) x.stake(i / riddles, i % riddles, stakes[i]);
        return x;
    }

    // ---- promise 31

    private static void stakes() {
        says(TERMS, "STAKES: of each HEAD h and RIDDLE r a number (0 to 999; 0 at first).");
        MouthRiddles x = staked(6, 10);
        for (int i = 0; i < 60; i++) due("at first", x.stake(i / 10, i % 10, 900 + i), 0);
        for (int i = 0; i < 60; i++) due("each its own", x.stake(i / 10, i % 10, 0), 900 + i);
        says(31, "STAKE of a HEAD and a RIDDLE becomes v: what it was.");
        MouthRiddles y = staked(1, 1);
        due("stake(0, 0, 0)", y.stake(0, 0, 0), 0);
        due("stake(0, 0, 999)", y.stake(0, 0, 999), 0);
        due("stake(0, 0, 998)", y.stake(0, 0, 998), 999);
        due("stake(0, 0, 1)", y.stake(0, 0, 1), 998);
        due("stake(0, 0, 0)", y.stake(0, 0, 0), 1);
        due("whom(NONE)", y.whom(NONE), 0);
    }

    private static void stakesRefused() {
        says(31, "UNKNOWN");
        refused(Fires::empty, "stake(0, 0, 0)", o -> o.stake(0, 0, 0), UNKNOWN);
        refused(() -> staked(1, 0), "stake(0, 0, 0) without riddles", o -> o.stake(0, 0, 0), UNKNOWN);
        refused(() -> staked(0, 1), "stake(0, 0, 0) without heads", o -> o.stake(0, 0, 0), UNKNOWN);
        for (int head : new int[] {-1, 3, 5, 6, MIN, MAX}) {
            refused(Fires::some, "stake(" + head + ", 0, 1)", o -> o.stake(head, 0, 1), UNKNOWN);
            refused(Fires::some, "stake(" + head + ", 0, 1000), outside, too", o -> o.stake(head, 0, 1000), UNKNOWN);
        }
        for (int riddle : new int[] {-1, 7, 9, 10, MIN, MAX}) {
            refused(Fires::some, "stake(0, " + riddle + ", 1)", o -> o.stake(0, riddle, 1), UNKNOWN);
            refused(Fires::some, "stake(0, " + riddle + ", -1), outside, too", o -> o.stake(0, riddle, -1), UNKNOWN);
        }
        refused(Fires::full, "stake(6, 9, 1)", o -> o.stake(6, 9, 1), UNKNOWN);
        refused(Fires::full, "stake(5, 10, 1)", o -> o.stake(5, 10, 1), UNKNOWN);
        says(31, "OUTSIDE");
        for (int v : new int[] {-1, 1000, MIN, MAX}) {
            refused(Fires::some, "stake(0, 0, " + v + ")", o -> o.stake(0, 0, v), OUTSIDE);
            refused(Fires::full, "stake(5, 9, " + v + ")", o -> o.stake(5, 9, v), OUTSIDE);
        }
    }

    // ---- promise 32

    private static void asks(MouthRiddles x, int sum, int... riddles) {
        due("whom(NONE)", x.whom(NONE), sum);
        for (int head = 0; head < riddles.length; head++) due("whom(" + head + ")", x.whom(head), riddles[head]);
        due("a head more", x.whom(riddles.length), UNKNOWN);
    }

    private static void whom() {
        says(TERMS, "WHOM TO ASK: each HEAD one RIDDLE at most, each RIDDLE one HEAD at most, so that the stakes together are most; "
            + "of like ones HEAD 0 the least RIDDLE (none behind all), then HEAD 1, and so on.");
        asks(staked(2, 2, 5, 9, 4, 9), 14, 0, 1);
        asks(staked(2, 2, 5, 9, 5, 9), 14, 0, 1);
        asks(staked(2, 2, 5, 9, 6, 9), 15, 1, 0);
        asks(staked(2, 1, 3, 3), 3, 0, NONE);
        asks(staked(2, 1, 3, 4), 4, NONE, 0);
        asks(staked(2, 3, 7, 7, 7, 0, 0, 0), 7, 0, 1);
        asks(staked(3, 2, 1, 1, 1, 1, 1, 1), 2, 0, 1, NONE);
        asks(staked(3, 2, 0, 0, 1, 1, 1, 1), 2, NONE, 0, 1);
        asks(staked(3, 2, 0, 0, 0, 5, 5, 0), 10, NONE, 1, 0);
        MouthRiddles most = staked(6, 10);
        for (int i = 0; i < 36; i++) most.stake(i / 6, 4 + i % 6, 999);
        asks(most, 5994, 4, 5, 6, 7, 8, 9);
        MouthRiddles backwards = staked(6, 10);
        for (int head = 0; head < 6; head++) backwards.stake(head, 9 - head, 999);
        asks(backwards, 5994, 9, 8, 7, 6, 5, 4);
        MouthRiddles lastOnly = staked(6, 10);
        lastOnly.stake(5, 0, 1);
        asks(lastOnly, 1, 1, 2, 3, 4, 5, 0);
        MouthRiddles allOnOne = staked(6, 10);
        for (int head = 0; head < 6; head++) allOnOne.stake(head, 3, 999);
        asks(allOnOne, 999, 0, 1, 2, 3, 4, 5);
        MouthRiddles allOnLast = staked(6, 10);
        for (int head = 0; head < 6; head++) allOnLast.stake(head, 9, 999);
        asks(allOnLast, 999, 0, 1, 2, 3, 4, 9);
    }

    private static void whomOfAFew() {
        says(32, "WHOM TO ASK: the RIDDLE of a HEAD (NONE)");
        asks(staked(1, 1), 0, 0);
        asks(staked(6, 10), 0, 0, 1, 2, 3, 4, 5);
        asks(staked(2, 0), 0, NONE, NONE);
        asks(staked(6, 1), 0, 0, NONE, NONE, NONE, NONE, NONE);
        asks(staked(6, 5), 0, 0, 1, 2, 3, 4, NONE);
        asks(staked(1, 10, 0, 0, 0, 0, 0, 0, 0, 0, 0, 1), 1, 9);
        says(32, "of head NONE the stakes together.");
        due("without heads and riddles", Fires.empty().whom(NONE), 0);
        due("without heads", staked(0, 10).whom(NONE), 0);
        due("without riddles", staked(6, 0).whom(NONE), 0);
        due("one of each", staked(1, 1, 999).whom(NONE), 999);
        asked(Fires::full, "six of ten", o -> o.whom(NONE), 6 * 999 - 15);
    }

    private static void whomRefused() {
        says(32, "UNKNOWN: head");
        refused(Fires::empty, "whom(0)", o -> o.whom(0), UNKNOWN);
        refused(() -> staked(0, 3), "whom(0) with riddles alone", o -> o.whom(0), UNKNOWN);
        for (int head : new int[] {-2, 3, 5, 6, MIN, MAX}) refused(Fires::some, "whom(" + head + ")", o -> o.whom(head), UNKNOWN);
        for (int head : new int[] {-2, 6, MIN, MAX}) refused(Fires::full, "whom(" + head + ")", o -> o.whom(head), UNKNOWN);
    }

    // ---- promise 33

    private static void counts() {
        says(33, "How many: 0 THINGS, 1 SENSES of all WORDS, 2 SAYINGS, 3 RIDDLES, 4 HEADS, 5 TONGUES, 6 NODES, "
            + "7 letters of THE PAGE, 8 how often made(), 9 chance() was done.");
        int[] ofSome = {5, 6, 7, 7, 3, 2, 6, 5, 2, 1};
        int[] ofFull = {12, 48, 20, 10, 6, 4, 15, 40, 20, 12};
        for (int what = 0; what < 10; what++) {
            int asked = what;
            asked(Fires::empty, "count(" + what + ")", o -> o.count(asked), 0);
            asked(Fires::some, "count(" + what + ")", o -> o.count(asked), ofSome[what]);
            asked(Fires::full, "count(" + what + ")", o -> o.count(asked), ofFull[what]);
        }
        says(33, "OUTSIDE");
        for (int what : new int[] {-1, 10, MIN, MAX}) {
            refused(Fires::empty, "count(" + what + ")", o -> o.count(what), OUTSIDE);
            refused(Fires::some, "count(" + what + ")", o -> o.count(what), OUTSIDE);
            refused(Fires::full, "count(" + what + ")", o -> o.count(what), OUTSIDE);
        }
    }

    /** Each call raises the one count that is its own. */
    private static void countsByCall() {
        says(33, "How many: 0 THINGS, 1 SENSES of all WORDS, 2 SAYINGS, 3 RIDDLES, 4 HEADS, 5 TONGUES, 6 NODES");
        MouthRiddles x = Fires.empty();
        counted(x);
        x.thing(0);
        counted(x, 0);
        x.sense(15, 0);
        counted(x, 0, 1);
        x.saying(5, 0, 0);
        counted(x, 0, 1, 2);
        x.riddle(0);
        counted(x, 0, 1, 2, 3);
        x.head(0, 0);
        counted(x, 0, 1, 2, 3, 4);
        x.tongue();
        counted(x, 0, 1, 2, 3, 4, 5);
        x.letters('a');
        counted(x, 0, 1, 2, 3, 4, 5, 7);
        x.tree();
        counted(x, 0, 1, 2, 3, 4, 5, 6);
        x.made(0, 1);
        counted(x, 0, 1, 2, 3, 4, 5, 6, 8);
        x.chance(0);
        counted(x, 0, 1, 2, 3, 4, 5, 6, 8, 9);
        x.more(0, 0);
        x.stake(0, 0, 1);
        x.variant(0, 0);
        x.lack(0, 0, 0, true);
        counted(x, 0, 1, 2, 3, 4, 5, 6, 8, 9);
    }

    private static void counted(MouthRiddles x, int... ones) {
        int bits = 0;
        for (int what : ones) bits |= 1 << what;
        for (int what = 0; what < 10; what++) due("count(" + what + ")", x.count(what), bits >> what & 1);
    }

    // ---- promise 34

    private static void digestOfParts() {
        says(34, "h is 349, then for each of these numbers, in order, 31 times h, and it");
        int[] bare = {-1, -1, -1, -1, -1, -1, -1, -1, 0, 0, 0, 0, 0, 0, 0, 0, 0, 0};
        due("of a new object", Fires.empty().digest(), hash(bare));
        says(34, "of each THING its TRAITS; of each WORD of each SENSE its TRAIT; of each SAYING KIND, WORD, n, of each THING BY (NONE)");
        MouthRiddles x = Fires.empty();
        x.thing(2);
        x.thing(16777215);
        x.sense(15, 0);
        x.sense(0, 23);
        x.sense(15, 1);
        x.saying(2, 15, 23);
        x.saying(5, 0, 0);
        due("of lore", x.digest(), hash(2, 16777215, 23, 0, 1, 2, 15, 23, 1, 1, 5, 0, 0, 0, -1,
            -1, -1, -1, -1, -1, -1, -1, -1, 2, 3, 2, 0, 0, 0, 0, 0, 0, 0));
        says(34, "of each RIDDLE its SAYINGS, ANSWERS, of each HEAD what hears() tells for 0 and 1, its STAKE");
        x.riddle(0);
        x.more(0, 1);
        x.head(3, 4);
        x.head(99, 99);
        x.riddle(0);
        x.stake(1, 0, 999);
        due("of riddles", x.digest(), hash(2, 16777215, 23, 0, 1, 2, 15, 23, 1, 1, 5, 0, 0, 0, -1,
            0, 1, 1, 0, 7, 0, 0, 198, 999, 0, 3, -1, -1, 0, -1, -1, 0,
            -1, -1, -1, -1, -1, -1, -1, -1, 2, 3, 2, 2, 2, 0, 0, 0, 0, 0));
        says(34, "of each LAND its VARIANT; with a TREE LEAST CHANGES, SURE of each NODE; letters of THE PAGE; what count() tells for 0 to 9.");
        MouthRiddles y = Fires.ofTree("((a,b),c)", 7, 0, 0, NONE, NONE, NONE, NONE, 3);
        y.letters(0x7e01L);
        y.chance(1);
        due("of lands", y.digest(), hash(7, 0, 0, -1, -1, -1, -1, 3, 1, 0, 0, 7, 0, 0, 1, 126, 0, 0, 0, 0, 0, 0, 5, 2, 0, 1));
    }

    private static void digestOfTongues() {
        says(34, "of each TONGUE of each RIDDLE what goes() tells for 0, 1 for THING 0 (not without THINGS)");
        MouthRiddles x = Fires.empty();
        x.saying(5, 1, 0);
        x.saying(0, 1, 0);
        x.riddle(0);
        x.riddle(1);
        x.tongue();
        x.tongue();
        due("without things", x.digest(), hash(5, 1, 0, 0, 1, 0, 0, 0, 1, 0,
            -1, -1, -1, -1, -1, -1, -1, -1, 0, 0, 2, 2, 0, 2, 0, 0, 0, 0));
        x.thing(0);
        due("with one", x.digest(), hash(0, 5, 1, 0, 0, 0, 1, 0, -1, 0, 1, 1, 0,
            1, 0, 0, 1, 1, 0, 0, 1, -1, -1, -1, -1, -1, -1, -1, -1, 1, 0, 2, 2, 0, 2, 0, 0, 0, 0));
        x.thing(2);
        x.sense(1, 1);
        x.lack(1, 1, 0, true);
        due("with two", x.digest(), hash(0, 2, 1, 5, 1, 0, 0, -1, 0, 1, 0, -1, 0, 0, 1, 1, 2,
            1, 0, 0, 1, 1, 0, 0, 1, -1, -1, -1, -1, -1, -1, -1, -1, 2, 1, 2, 2, 0, 2, 0, 0, 0, 0));
    }

    private static void digestWraps() {
        says(34, "(as longs, wrapping)");
        // 349 * 31 ^ 12 is the first above Long.MAX_VALUE, and a new object's digest is far behind it.
        due("of a new object, by longs alone", Fires.empty().digest(), wrapped());
        boolean below = false, above = false;
        for (int traits = 0; traits < 12; traits++) {
            MouthRiddles x = Fires.empty();
            x.thing(traits * 1398101);
            long told = x.digest();
            due("of one thing", told, hash(traits * 1398101, -1, -1, -1, -1, -1, -1, -1, -1, 1, 0, 0, 0, 0, 0, 0, 0, 0, 0));
            below |= told < 0;
            above |= told > 0;
        }
        due("some are below 0", below ? 1 : 0, 1);
        due("some are above 0", above ? 1 : 0, 1);
    }

    private static long wrapped() {
        long h = 349;
        for (int i = 0; i < 18; i++) h = 31 * h + (i < 8 ? -1 : 0);
        return h;
    }

    private static void digestByCalls() {
        says(34, "what count() tells for 0 to 9.");
        List<Supplier<MouthRiddles>> made = List.of(Fires::empty, Fires::some, Fires::full);
        int[][] things = {{}, {1, 2, 7, 0, 16777215}, new int[12]};
        for (int thing = 0; thing < 12; thing++) things[2][thing] = 1 << thing | 1 << 2 * thing;
        String[] pages = {"", "(h,(e", Fires.LARGEST + "((((((((((("};
        for (int i = 0; i < 3; i++) {
            List<Integer> told = new ArrayList<>();
            for (int traits : things[i]) told.add(traits);
            tellLore(made.get(i), i, told);
            tellRiddles(made.get(i), told);
            tellTongues(made.get(i), told);
            tellLands(made.get(i), told);
            for (char letter : pages[i].toCharArray()) told.add((int) letter);
            for (int what = 0; what < 10; what++) told.add(made.get(i).get().count(what));
            long hash = hash(told.stream().mapToInt(Integer::intValue).toArray());
            due("digest() of object " + i + ", by what other calls tell", made.get(i).get().digest(), hash);
        }
    }

    /** Each part asks an object of its own, as one object is good for 512 calls. */
    private static void tellLore(Supplier<MouthRiddles> made, int state, List<Integer> told) {
        MouthRiddles x = made.get();
        for (int word = 0; word < 16; word++) {
            for (int i = 0; i < 3; i++) if (x.senseOf(word, i) != NONE) told.add(x.senseOf(word, i));
        }
        MouthRiddles y = made.get();
        int things = y.count(0), sayings = y.count(2);
        for (int saying = 0; saying < sayings; saying++) {
            if (state == 1) told.addAll(saying < 6 ? List.of(saying, 0, saying) : List.of(1, 15, 0));
            else told.addAll(List.of(saying % 6, saying % 16, saying));
            for (int thing = 0; thing < things; thing++) told.add(y.fits(saying, thing));
        }
    }

    private static void tellRiddles(Supplier<MouthRiddles> made, List<Integer> told) {
        MouthRiddles x = made.get();
        int riddles = x.count(3), heads = x.count(4);
        for (int riddle = 0; riddle < riddles; riddle++) {
            for (int i = 0; i < 6; i++) {
                int saying = x.said(riddle, i);
                if (saying != NONE) told.add(saying);
            }
            told.add(x.answers(riddle));
            for (int head = 0; head < heads; head++) {
                told.add(x.hears(head, riddle, 0));
                told.add(x.hears(head, riddle, 1));
                told.add(x.stake(head, riddle, 0));
            }
        }
    }

    private static void tellTongues(Supplier<MouthRiddles> made, List<Integer> told) {
        MouthRiddles x = made.get();
        if (x.count(0) == 0) return;
        int riddles = x.count(3), tongues = x.count(5);
        for (int tongue = 0; tongue < tongues; tongue++) {
            for (int riddle = 0; riddle < riddles; riddle++) {
                told.add(x.goes(riddle, 0, tongue, 0));
                told.add(x.goes(riddle, 0, tongue, 1));
            }
        }
    }

    private static void tellLands(Supplier<MouthRiddles> made, List<Integer> told) {
        MouthRiddles x = made.get();
        for (int land = 0; land < 8; land++) told.add(x.variant(land, NONE));
        MouthRiddles y = made.get();
        int nodes = y.count(6);
        if (nodes > 0) told.add(y.changes(0));
        for (int node = 0; node < nodes; node++) told.add(y.changes(10 + node));
    }
}
