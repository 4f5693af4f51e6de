import java.util.function.Supplier;

/** Boundary cases of things, words and sayings: promises 1 to 7, and the terms that they use. */
final class BoundsOfLore extends Bounds {
    private static final int ALL_TRAITS = 16777215;

    static void all() {
        newObject();
        things();
        senses();
        sensesToldBack();
        sayings();
        kinds();
        fitting();
        fittingOfKinds();
    }

    // ---- promise 1

    private static void newObject() {
        says(1, "No things, no senses.");
        MouthRiddles x = Fires.empty();
        for (int what = 0; what < 10; what++) due("count(" + what + ")", x.count(what), 0);
        for (int word = 0; word < 16; word++) due("senseOf(" + word + ", 0)", x.senseOf(word, 0), NONE);
        due("fits(0, 0)", x.fits(0, 0), UNKNOWN);
        due("the first thing", x.thing(0), 0);
        due("the first sense", x.sense(0, 0), 1);
        due("a later object has none either", new MouthRiddles().count(0), 0);
        MouthRiddles old = Fires.empty();
        for (int call = 1; call < 512; call++) due("call " + call, old.count(call % 10), 0);
        due("the 512th call", old.thing(16777215), 0);
    }

    // ---- promise 2

    private static void things() {
        says(TERMS, "THINGS (12 at most, numbered) have a set of TRAITS.");
        for (int trait = 0; trait < 24; trait++) loneTrait(trait);
        says(2, "A THING: its number.");
        MouthRiddles x = Fires.empty();
        for (int thing = 0; thing < 12; thing++) due("thing(0)", x.thing(0), thing);
        says(2, "OUTSIDE: traits (0 to 16777215)");
        for (int traits : new int[] {-1, ALL_TRAITS + 1, MIN, MAX}) {
            refused(Fires::empty, "thing(" + traits + ")", o -> o.thing(traits), OUTSIDE);
            refused(Fires::some, "thing(" + traits + ")", o -> o.thing(traits), OUTSIDE);
            refused(Fires::full, "thing(" + traits + ") where there are 12", o -> o.thing(traits), OUTSIDE);
        }
        traitsTaken();
        says(2, "FULL");
        MouthRiddles y = Fires.empty();
        for (int thing = 0; thing < 11; thing++) y.thing(1);
        due("the 12th thing", y.thing(ALL_TRAITS), 11);
        due("the 13th thing", y.thing(1), FULL);
        due("count(0)", y.count(0), 12);
        refused(Fires::full, "the 13th thing", o -> o.thing(0), FULL);
        refused(Fires::full, "the 13th thing of all traits", o -> o.thing(ALL_TRAITS), FULL);
    }

    private static void loneTrait(int trait) {
        MouthRiddles x = Fires.empty();
        x.thing(1 << trait);
        x.thing(ALL_TRAITS ^ 1 << trait);
        for (int other = 0; other < 24; other++) {
            x.sense(other % 16, other);
            if (other == trait) due("saying()", x.saying(other < 16 ? PLAIN : BORROWED, other % 16, 0), 0);
        }
        due("fits() by trait " + trait + " alone", x.fits(0, 0), trait < 16 ? 0 : 1);
        due("fits() by all but trait " + trait, x.fits(0, 1), NONE);
    }

    private static void traitsTaken() {
        MouthRiddles x = Fires.empty();
        due("thing(0)", x.thing(0), 0);
        due("thing(16777215)", x.thing(ALL_TRAITS), 1);
        due("digest()", x.digest(), hash(0, ALL_TRAITS, -1, -1, -1, -1, -1, -1, -1, -1, 2, 0, 0, 0, 0, 0, 0, 0, 0, 0));
    }

    // ---- promise 3

    private static void senses() {
        says(3, "A WORD gets one SENSE more, behind the others: how many it has.");
        MouthRiddles x = Fires.empty();
        for (int i = 0; i < 3; i++) {
            for (int word = 0; word < 16; word++) due("sense()", x.sense(word, 20 - 9 * i), i + 1);
        }
        for (int i = 0; i < 3; i++) due("senseOf(7, " + i + ")", x.senseOf(7, i), 20 - 9 * i);
        says(3, "UNKNOWN: word");
        for (int word : new int[] {-1, 16, MIN, MAX}) {
            refused(Fires::some, "sense(" + word + ", 0)", o -> o.sense(word, 0), UNKNOWN);
            refused(Fires::full, "sense(" + word + ", 24), outside, too", o -> o.sense(word, 24), UNKNOWN);
            refused(Fires::empty, "sense(" + word + ", -1), outside, too", o -> o.sense(word, -1), UNKNOWN);
        }
        due("word 0", Fires.empty().sense(0, 0), 1);
        due("word 15", Fires.empty().sense(15, 0), 1);
        traitOfSense();
        sensesFull();
    }

    private static void traitOfSense() {
        says(3, "OUTSIDE: trait, or it has that already");
        for (int trait : new int[] {-1, 24, MIN, MAX}) {
            refused(Fires::empty, "sense(0, " + trait + ")", o -> o.sense(0, trait), OUTSIDE);
            refused(Fires::some, "sense(15, " + trait + ")", o -> o.sense(15, trait), OUTSIDE);
            refused(Fires::full, "sense(0, " + trait + ") where there are 3", o -> o.sense(0, trait), OUTSIDE);
        }
        due("trait 0", Fires.empty().sense(0, 0), 1);
        due("trait 23", Fires.empty().sense(0, 23), 1);
        refused(Fires::some, "the only sense again", o -> o.sense(1, 3), OUTSIDE);
        refused(Fires::some, "the first of two again", o -> o.sense(15, 23), OUTSIDE);
        refused(Fires::some, "the second of two again", o -> o.sense(15, 0), OUTSIDE);
        for (int trait = 0; trait < 3; trait++) {
            int again = trait;
            refused(Fires::some, "one of three again, where it is full, too", o -> o.sense(0, again), OUTSIDE);
        }
        due("a trait that only another word has", Fires.some().sense(2, 3), 1);
    }

    private static void sensesFull() {
        says(3, "FULL");
        refused(Fires::some, "a 4th sense", o -> o.sense(0, 3), FULL);
        refused(Fires::full, "a 4th sense of word 15", o -> o.sense(15, 4), FULL);
        due("a third sense", Fires.some().sense(15, 5), 3);
        MouthRiddles x = Fires.some();
        x.sense(0, 9);
        due("another word is not full", x.sense(2, 9), 1);
    }

    // ---- promise 4

    private static void sensesToldBack() {
        says(TERMS, "WORDS 0 to 15 have SENSES (3 at most, in order; none at first), each a TRAIT");
        MouthRiddles x = Fires.full();
        for (int word = 0; word < 16; word++) {
            for (int i = 0; i < 3; i++) due("senseOf(" + word + ", " + i + ")", x.senseOf(word, i), (word + 5 * i) % 24);
            due("a 4th of word " + word, x.senseOf(word, 3), NONE);
            for (int i = 0; i < 3; i++) due("senseOf() at first", Fires.empty().senseOf(word, i), NONE);
        }
        says(4, "The i-th SENSE of a WORD: its TRAIT");
        asked(Fires::some, "senseOf(15, 0)", o -> o.senseOf(15, 0), 23);
        asked(Fires::some, "senseOf(15, 1)", o -> o.senseOf(15, 1), 0);
        says(4, "NONE");
        asked(Fires::some, "senseOf(15, 2), of two", o -> o.senseOf(15, 2), NONE);
        asked(Fires::some, "senseOf(0, 3), of three", o -> o.senseOf(0, 3), NONE);
        asked(Fires::some, "senseOf(2, 0), of none", o -> o.senseOf(2, 0), NONE);
        for (int i : new int[] {-1, 4, MIN, MAX}) asked(Fires::some, "senseOf(0, " + i + ")", o -> o.senseOf(0, i), NONE);
        says(4, "UNKNOWN: word");
        for (int word : new int[] {-1, 16, MIN, MAX}) {
            refused(Fires::some, "senseOf(" + word + ", 0)", o -> o.senseOf(word, 0), UNKNOWN);
            refused(Fires::full, "senseOf(" + word + ", 3)", o -> o.senseOf(word, 3), UNKNOWN);
        }
    }

    // ---- promise 5

    private static void sayings() {
        says(TERMS, "SAYINGS (20 at most, numbered) are of KINDS: 0 SAYING, 1 PLAIN, 2 BORROWED, 3 FIGHTING, 4 COUNTED, 5 KNOWN, "
            + "with a WORD w and a number n (0 to 23).");
        MouthRiddles x = Fires.empty();
        for (int number = 0; number < 20; number++) {
            due("saying()", x.saying(number % 6, number % 2 * 15, number % 3 == 0 ? 0 : 23), number);
        }
        says(5, "A SAYING: its number.");
        due("saying(0, 0, 0)", Fires.empty().saying(0, 0, 0), 0);
        due("the eighth", Fires.some().saying(5, 15, 23), 7);
        sayingsOutside();
        says(5, "UNKNOWN: word");
        for (int word : new int[] {-1, 16, MIN, MAX}) {
            refused(Fires::empty, "saying(0, " + word + ", 0)", o -> o.saying(0, word, 0), UNKNOWN);
            refused(Fires::full, "saying(5, " + word + ", 23) where there are 20", o -> o.saying(5, word, 23), UNKNOWN);
        }
        says(5, "FULL");
        MouthRiddles y = Fires.empty();
        for (int number = 0; number < 19; number++) y.saying(0, 0, 0);
        due("the 20th", y.saying(0, 0, 0), 19);
        due("the 21st", y.saying(0, 0, 0), FULL);
        refused(Fires::full, "the 21st", o -> o.saying(5, 15, 23), FULL);
    }

    private static void sayingsOutside() {
        says(5, "OUTSIDE: kind, n");
        for (int kind : new int[] {-1, 6, MIN, MAX}) {
            refused(Fires::some, "saying(" + kind + ", 0, 0)", o -> o.saying(kind, 0, 0), OUTSIDE);
            refused(Fires::some, "saying(" + kind + ", 16, 0), unknown, too", o -> o.saying(kind, 16, 0), OUTSIDE);
            refused(Fires::full, "saying(" + kind + ", 0, 0) where there are 20", o -> o.saying(kind, 0, 0), OUTSIDE);
        }
        for (int n : new int[] {-1, 24, MIN, MAX}) {
            for (int k = 0; k < 6; k++) {
                int kind = k;
                refused(Fires::empty, "saying(" + kind + ", 0, " + n + ")", o -> o.saying(kind, 0, n), OUTSIDE);
            }
            refused(Fires::some, "saying(0, -1, " + n + "), unknown, too", o -> o.saying(0, -1, n), OUTSIDE);
            refused(Fires::full, "saying(0, 0, " + n + ") where there are 20", o -> o.saying(0, 0, n), OUTSIDE);
        }
    }

    // ---- promise 6

    private static void kinds() {
        says(TERMS, "All are SAYINGS; a FIGHTING is BORROWED, too.");
        for (int own = 0; own < 6; own++) {
            due("as a saying", Fires.some().as(own, SAYING), own);
            due("as a borrowed", Fires.some().as(own, BORROWED), own == BORROWED || own == FIGHTING ? own : NONE);
        }
        says(6, "A SAYING taken as a KIND: its number");
        for (int own = 0; own < 6; own++) {
            int kind = own;
            asked(Fires::some, "as(" + own + ", " + own + ")", o -> o.as(kind, kind), own);
        }
        due("the 20th as what it is", Fires.full().as(19, 1), 19);
        says(6, "NONE: it is none such (the cast fails).");
        for (int own = 0; own < 6; own++) {
            for (int kind = 1; kind < 6; kind++) {
                if (kind == own || own == FIGHTING && kind == BORROWED) continue;
                due("as(" + own + ", " + kind + ")", Fires.some().as(own, kind), NONE);
            }
        }
        says(6, "UNKNOWN");
        refused(Fires::empty, "as(0, 0)", o -> o.as(0, 0), UNKNOWN);
        for (int saying : new int[] {-1, 7, 19, 20, MIN, MAX}) {
            refused(Fires::some, "as(" + saying + ", 0)", o -> o.as(saying, 0), UNKNOWN);
            refused(Fires::some, "as(" + saying + ", 6), outside, too", o -> o.as(saying, 6), UNKNOWN);
        }
        refused(Fires::full, "as(20, 0)", o -> o.as(20, 0), UNKNOWN);
        says(6, "OUTSIDE");
        for (int kind : new int[] {-1, 6, MIN, MAX}) refused(Fires::some, "as(0, " + kind + ")", o -> o.as(0, kind), OUTSIDE);
    }

    // ---- promise 7

    private static void row(MouthRiddles x, int saying, int... by) {
        for (int thing = 0; thing < by.length; thing++) {
            due("fits(" + saying + ", " + thing + ")", x.fits(saying, thing), by[thing]);
        }
    }

    private static void fitting() {
        says(7, "BY which SENSE a SAYING FITS a THING");
        row(Fires.some(), SAYING, 0, 1, 0, NONE, 0);
        says(7, "NONE: it does not.");
        asked(Fires::some, "fits(0, 3), a thing without traits", o -> o.fits(0, 3), NONE);
        asked(Fires::some, "fits(1, 1)", o -> o.fits(1, 1), NONE);
        says(7, "UNKNOWN");
        refused(Fires::empty, "fits(0, 0)", o -> o.fits(0, 0), UNKNOWN);
        for (int saying : new int[] {-1, 7, 20, MIN, MAX}) {
            refused(Fires::some, "fits(" + saying + ", 0)", o -> o.fits(saying, 0), UNKNOWN);
        }
        for (int thing : new int[] {-1, 5, 12, 31, 32, MIN, MAX}) {
            refused(Fires::some, "fits(5, " + thing + ")", o -> o.fits(5, thing), UNKNOWN);
        }
        refused(Fires::full, "fits(20, 0)", o -> o.fits(20, 0), UNKNOWN);
        refused(Fires::full, "fits(0, 12)", o -> o.fits(0, 12), UNKNOWN);
        Supplier<MouthRiddles> sayingAlone = () -> {
            MouthRiddles x = Fires.empty();
            x.saying(KNOWN, 0, 0);
            return x;
        };
        refused(sayingAlone, "fits(0, 0) without things", o -> o.fits(0, 0), UNKNOWN);
        says(TERMS, "BY is the least SENSE by which it fits.");
        row(allSubsets(SAYING), 0, NONE, 0, 1, 0, 2, 0, 1, 0);
        row(allSubsets(BORROWED), 0, NONE, NONE, 1, 1, 2, 2, 1, 1);
    }

    /** Thing t has the traits of t's bits, word 0 the senses 0, 1, 2; the saying is of word 0, with n = 2. */
    private static MouthRiddles allSubsets(int kind) {
        MouthRiddles x = Fires.empty();
        for (int traits = 0; traits < 8; traits++) x.thing(traits);
        for (int trait = 0; trait < 3; trait++) x.sense(0, trait);
        x.saying(kind, 0, 2);
        return x;
    }

    private static void fittingOfKinds() {
        says(TERMS, "the first is the PLAIN one, all others are TURNED.");
        row(allSubsets(PLAIN), 0, NONE, 0, NONE, 0, NONE, 0, NONE, 0);
        row(allSubsets(BORROWED), 0, NONE, NONE, 1, 1, 2, 2, 1, 1);
        says(TERMS, "A SAYING FITS a THING BY A SENSE of w, if that is one of the THING's TRAITS: a SAYING by any, "
            + "a PLAIN by the PLAIN one alone, a BORROWED by TURNED ones alone");
        for (int kind = 0; kind < 5; kind++) {
            MouthRiddles x = allSubsets(kind);
            int bare = x.saying(kind, 9, 0);
            row(x, bare, NONE, NONE, NONE, NONE, NONE, NONE, NONE, NONE);
            x.sense(9, 2);
            int by = kind == BORROWED || kind == FIGHTING ? NONE : 0;
            row(x, bare, NONE, NONE, NONE, NONE, by, by, by, by);
        }
        says(TERMS, "a FIGHTING as a BORROWED, if the THING has not the PLAIN TRAIT of w, too (w without SENSES: it fits nothing)");
        row(allSubsets(FIGHTING), 0, NONE, NONE, 1, NONE, 2, NONE, 1, NONE);
        MouthRiddles bare = allSubsets(FIGHTING);
        row(bare, bare.saying(FIGHTING, 1, 0), NONE, NONE, NONE, NONE, NONE, NONE, NONE, NONE);
        countedOnes();
        knownOnes();
    }

    private static void countedOnes() {
        says(TERMS, "a COUNTED as a SAYING, if the THING has n TRAITS at least");
        row(allSubsets(COUNTED), 0, NONE, NONE, NONE, 0, NONE, 0, 1, 0);
        for (int n = 0; n < 24; n++) {
            MouthRiddles x = Fires.empty();
            // Of n - 1, n and n + 1 traits, trait 0 always among them if there is one.
            for (int size = n - 1; size <= n + 1; size++) x.thing(size <= 0 ? 0 : (1 << size) - 1);
            x.sense(0, 0);
            x.saying(COUNTED, 0, n);
            row(x, 0, NONE, n == 0 ? NONE : 0, 0);
        }
        MouthRiddles most = Fires.empty();
        most.thing(ALL_TRAITS);
        most.thing(ALL_TRAITS ^ 4);
        most.thing(ALL_TRAITS ^ 6);
        most.sense(0, 23);
        most.saying(COUNTED, 0, 23);
        row(most, 0, 0, 0, NONE);
    }

    private static void knownOnes() {
        says(TERMS, "a KNOWN the THING numbered n alone, whatever it has (BY 0).");
        row(allSubsets(KNOWN), 0, NONE, NONE, 0, NONE, NONE, NONE, NONE, NONE);
        MouthRiddles x = Fires.empty();
        for (int n = 0; n < 20; n++) x.saying(KNOWN, 0, n);
        for (int thing = 0; thing < 12; thing++) {
            due("thing(0)", x.thing(0), thing);
            for (int n = 0; n < 20; n++) due("fits(" + n + ", " + thing + ")", x.fits(n, thing), n == thing ? 0 : NONE);
        }
        MouthRiddles y = Fires.empty();
        for (int thing = 0; thing < 12; thing++) y.thing(ALL_TRAITS);
        for (int n = 12; n < 24; n++) {
            int saying = y.saying(KNOWN, 0, n);
            for (int thing = 0; thing < 12; thing++) due("a known " + n, y.fits(saying, thing), NONE);
        }
    }
}
