import java.util.List;
import java.util.function.Supplier;
import java.util.function.ToIntFunction;

/**
 * Every call with every mix of arguments at the edges, on an object with nothing, with something and with all
 * there may be of everything: the first refusal as the call tells them, and nothing changed by it.
 */
final class BoundsOfRefusals extends Bounds {
    /** Not refused: the answer is free here, but it is no refusal. */
    private static final int TAKEN = 0;
    private static final int[] WORDS = {MIN, -1, 0, 2, 15, 16, MAX};
    private static final int[] PLACES = {MIN, -1, 0, 1, 2, 3, 6, MAX};
    private static final int[] WHATS = {MIN, -1, 0, 1, 2, MAX};
    private static final int[] THINGS = {MIN, -1, 0, 4, 5, 11, 12, MAX};
    private static final int[] SAYINGS = {MIN, -1, 0, 6, 7, 19, 20, MAX};
    private static final int[] RIDDLES = {MIN, -1, 0, 1, 6, 7, 9, 10, MAX};
    private static final int[] HEADS = {MIN, -2, -1, 0, 2, 3, 5, 6, MAX};
    private static final int[] TONGUES = {MIN, -1, 0, 1, 2, 3, 4, MAX};

    private final Supplier<MouthRiddles> made;
    // How many there are of each.
    private final int things, sayings, riddles, heads, tongues;
    private final boolean full, bare;

    private BoundsOfRefusals(Supplier<MouthRiddles> made, int... counts) {
        this.made = made;
        things = counts[0];
        sayings = counts[1];
        riddles = counts[2];
        heads = counts[3];
        tongues = counts[4];
        bare = things == 0;
        full = things == 12;
    }

    static void all() {
        says(TERMS, "Refusals, of several the first as told by each call: UNKNOWN (a number names nothing), "
            + "OUTSIDE (it is not as told), STATE (as told), FULL; they change nothing.");
        List<BoundsOfRefusals> states = List.of(
            new BoundsOfRefusals(Fires::empty, 0, 0, 0, 0, 0),
            new BoundsOfRefusals(Fires::some, 5, 7, 7, 3, 2),
            new BoundsOfRefusals(Fires::full, 12, 20, 10, 6, 4));
        for (BoundsOfRefusals state : states) {
            state.lore();
            state.sayings();
            state.riddles();
            state.answers();
            state.heads();
            state.tongues();
            state.lands();
            state.told();
        }
    }

    private static boolean in(int number, int from, int to) {
        return number >= from && number <= to;
    }

    private static int unknown(boolean is) {
        return is ? UNKNOWN : TAKEN;
    }

    private static int outside(boolean is) {
        return is ? OUTSIDE : TAKEN;
    }

    private static int state(boolean is) {
        return is ? STATE : TAKEN;
    }

    private static int full(boolean is) {
        return is ? FULL : TAKEN;
    }

    /** The first of the refusals that are due, as the call tells them. */
    private void call(String name, ToIntFunction<MouthRiddles> calling, int... refusals) {
        for (int refusal : refusals) {
            if (refusal != TAKEN) {
                refused(made, name, calling, refusal);
                return;
            }
        }
        due(name + " is refused", calling.applyAsInt(made.get()) < NONE ? 1 : 0, 0);
    }

    private static String with(String name, Object... arguments) {
        return name + List.of(arguments);
    }

    private boolean noThing(int thing) {
        return !in(thing, 0, things - 1);
    }

    private boolean noSaying(int saying) {
        return !in(saying, 0, sayings - 1);
    }

    private boolean noRiddle(int riddle) {
        return !in(riddle, 0, riddles - 1);
    }

    private boolean noHead(int head) {
        return !in(head, 0, heads - 1);
    }

    private boolean noTongue(int tongue) {
        return !in(tongue, 0, tongues - 1);
    }

    private void lore() {
        for (int traits : new int[] {MIN, -1, 0, 1, 16777215, 16777216, MAX}) {
            call(with("thing", traits), o -> o.thing(traits), outside(!in(traits, 0, 16777215)), full(full));
        }
        for (int word : WORDS) {
            boolean noWord = !in(word, 0, 15);
            for (int trait : new int[] {MIN, -1, 0, 4, 5, 23, 24, MAX}) {
                boolean had = !noWord && !bare && Fires.hasSense(made.get(), word, trait);
                boolean filled = full || !bare && word == 0;
                call(with("sense", word, trait), o -> o.sense(word, trait),
                    unknown(noWord), outside(!in(trait, 0, 23) || had), full(filled));
            }
            for (int i : PLACES) call(with("senseOf", word, i), o -> o.senseOf(word, i), unknown(noWord));
        }
    }

    private void sayings() {
        int[] kinds = {MIN, -1, 0, 5, 6, MAX};
        for (int kind : kinds) {
            for (int word : WORDS) {
                for (int n : new int[] {MIN, -1, 0, 23, 24, MAX}) {
                    call(with("saying", kind, word, n), o -> o.saying(kind, word, n),
                        outside(!in(kind, 0, 5) || !in(n, 0, 23)), unknown(!in(word, 0, 15)), full(full));
                }
            }
        }
        for (int saying : SAYINGS) {
            for (int kind : kinds) {
                call(with("as", saying, kind), o -> o.as(saying, kind), unknown(noSaying(saying)), outside(!in(kind, 0, 5)));
            }
            for (int thing : THINGS) {
                call(with("fits", saying, thing), o -> o.fits(saying, thing), unknown(noSaying(saying) || noThing(thing)));
            }
            call(with("riddle", saying), o -> o.riddle(saying), unknown(noSaying(saying)), full(full));
        }
    }

    private void riddles() {
        for (int riddle : RIDDLES) {
            for (int saying : SAYINGS) {
                boolean six = full && (riddle == 0 || riddle == 9);
                call(with("more", riddle, saying), o -> o.more(riddle, saying),
                    unknown(noRiddle(riddle) || noSaying(saying)), full(six));
            }
            for (int i : PLACES) call(with("said", riddle, i), o -> o.said(riddle, i), unknown(noRiddle(riddle)));
            call(with("answers", riddle), o -> o.answers(riddle), unknown(noRiddle(riddle)));
            for (int what : WHATS) {
                call(with("astray", riddle, what), o -> o.astray(riddle, what), unknown(noRiddle(riddle)), outside(!in(what, 0, 1)));
            }
        }
        for (int thing : THINGS) {
            for (int k : new int[] {MIN, -1, 0, 1, 6, 7, MAX}) {
                call(with("made", thing, k), o -> o.made(thing, k), unknown(noThing(thing)), outside(!in(k, 1, 6)), state(full));
            }
        }
    }

    private void answers() {
        for (int riddle : RIDDLES) {
            for (int thing : THINGS) {
                boolean neither = noRiddle(riddle) || noThing(thing);
                call(with("turns", riddle, thing), o -> o.turns(riddle, thing), unknown(neither));
                call(with("blind", riddle, thing), o -> o.blind(riddle, thing), unknown(neither));
                call(with("nearest", riddle, thing), o -> o.nearest(riddle, thing), unknown(neither));
                for (int other : THINGS) {
                    call(with("judge", riddle, thing, other), o -> o.judge(riddle, thing, other), unknown(neither || noThing(other)));
                }
            }
        }
    }

    private void heads() {
        int[] speeds = {MIN, -1, 0, 99, 100, MAX};
        for (int plain : speeds) {
            for (int turned : speeds) {
                call(with("head", plain, turned), o -> o.head(plain, turned),
                    outside(!in(plain, 0, 99) || !in(turned, 0, 99)), full(full));
            }
        }
        for (int head : HEADS) {
            for (int riddle : RIDDLES) {
                for (int what : WHATS) {
                    call(with("hears", head, riddle, what), o -> o.hears(head, riddle, what),
                        unknown(noHead(head) || noRiddle(riddle)), outside(!in(what, 0, 1)));
                }
                for (int v : new int[] {MIN, -1, 0, 999, 1000, MAX}) {
                    call(with("stake", head, riddle, v), o -> o.stake(head, riddle, v),
                        unknown(noHead(head) || noRiddle(riddle)), outside(!in(v, 0, 999)));
                }
            }
            call(with("whom", head), o -> o.whom(head), unknown(head != NONE && noHead(head)));
        }
    }

    private void tongues() {
        call("tongue()", o -> o.tongue(), full(full));
        for (int tongue : TONGUES) {
            for (int word : WORDS) {
                for (int i : PLACES) lack(tongue, word, i);
            }
        }
        for (int riddle : RIDDLES) {
            for (int thing : THINGS) {
                for (int tongue : TONGUES) {
                    for (int what : new int[] {-1, 0, 1, 2}) {
                        call(with("goes", riddle, thing, tongue, what), o -> o.goes(riddle, thing, tongue, what),
                            unknown(noRiddle(riddle) || noThing(thing) || noTongue(tongue)), outside(!in(what, 0, 1)));
                    }
                }
            }
        }
    }

    private void lack(int tongue, int word, int i) {
        int unknown = unknown(noTongue(tongue) || !in(word, 0, 15));
        call(with("lack", tongue, word, i, true), o -> o.lack(tongue, word, i, true), unknown, outside(!in(i, 0, 2)));
        call(with("lack", tongue, word, i, false), o -> o.lack(tongue, word, i, false), unknown, outside(!in(i, 0, 2)));
    }

    private void lands() {
        for (long w : new long[] {Long.MIN_VALUE, -1, 127, 128, 256, 0x617f, 0x610061, Long.MAX_VALUE}) {
            call(with("letters", w), o -> o.letters(w), OUTSIDE);
        }
        call("letters(0)", o -> o.letters(0));
        for (long w : new long[] {1, 126, 0x6161616161616161L}) call(with("letters", w), o -> o.letters(w), full(full));
        call("blank()", o -> o.blank());
        call("fault()", o -> o.fault());
        call("tree()", o -> o.tree(), STATE);
        for (int land : new int[] {MIN, -1, 0, 7, 8, MAX}) {
            for (int v : new int[] {MIN, -2, -1, 0, 7, 8, MAX}) {
                call(with("variant", land, v), o -> o.variant(land, v), unknown(!in(land, 0, 7)), outside(!in(v, NONE, 7)));
            }
        }
        for (int what : new int[] {MIN, -1, 0, 1, 9, 10, 24, 25, 39, 40, MAX}) {
            call(with("changes", what), o -> o.changes(what), outside(what != 0 && !in(what, 10, 39)), state(bare));
        }
        for (int part : WHATS) call(with("chance", part), o -> o.chance(part), outside(!in(part, 0, 1)), state(bare || full));
    }

    private void told() {
        for (int what : WHATS) call(with("parts", what), o -> o.parts(what), outside(!in(what, 0, 1)));
        for (int what : new int[] {MIN, -1, 0, 9, 10, MAX}) call(with("count", what), o -> o.count(what), outside(!in(what, 0, 9)));
    }
}
