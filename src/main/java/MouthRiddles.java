import java.util.Arrays;

/** Riddles by a fire. What each call promises stands in ../shared/DOC.md. */
public final class MouthRiddles {
    public static final int NONE = -1, UNKNOWN = -101, OUTSIDE = -102, STATE = -103, FULL = -104;

    private static final int TRAITS = 24, MOST_THINGS = 12;
    private static final int WORDS = 16, MOST_SENSES = 3;
    private static final int MOST_SAYINGS = 20, MOST_NUMBER = 23;
    private static final int KINDS = 6, SAYING = 0, PLAIN = 1, BORROWED = 2, FIGHTING = 3, COUNTED = 4, KNOWN = 5;
    private static final int MOST_RIDDLES = 10, LONGEST_RIDDLE = 6;
    private static final int MOST_HEADS = 6, SLOWEST = 99;
    private static final int MOST_TONGUES = 4;
    private static final int LONGEST_PAGE = 40, MOST_LETTER = 126;
    private static final int LANDS = 8, VARIANTS = 8, MOST_KIDS = 4;
    private static final int SURE_FROM = 10, SURE_TO = 39;
    private static final int MOST_STAKE = 999;
    private static final int MOST_MADE = 20, MOST_CHANCES = 12;
    private static final int COUNTS = 10;

    private final Lore lore = new Lore();
    private final Riddles riddles = new Riddles(lore);
    private final Maker maker = new Maker();
    private final Heads heads = new Heads(riddles);
    private final Tongues tongues = new Tongues(riddles);
    private final Page page = new Page();
    private final Stakes stakes = new Stakes();
    private final Changes ways = new Changes();
    private final Deal deal = new Deal();
    private final int[] variants = new int[LANDS];
    private Tree told = new Tree();
    // The page is read into this one, so that a page that is no tree leaves the told one as it is.
    private Tree draft = new Tree();
    private int madeDone = 0;
    private int chanceDone = 0;

    public MouthRiddles() {
        Arrays.fill(variants, NONE);
    }

    // ---- things, words, sayings

    public int thing(int traits) {
        if (traits < 0 || traits >= 1 << TRAITS) return OUTSIDE;
        if (lore.things >= MOST_THINGS) return FULL;
        return lore.addThing(traits);
    }

    public int sense(int word, int trait) {
        if (!isWord(word)) return UNKNOWN;
        if (trait < 0 || trait >= TRAITS || lore.hasSense(word, trait)) return OUTSIDE;
        if (lore.senseCounts[word] >= MOST_SENSES) return FULL;
        return lore.addSense(word, trait);
    }

    public int senseOf(int word, int i) {
        if (!isWord(word)) return UNKNOWN;
        if (i < 0 || i >= lore.senseCounts[word]) return NONE;
        return lore.traitOf(word, i);
    }

    public int saying(int kind, int word, int n) {
        if (!isKind(kind) || n < 0 || n > MOST_NUMBER) return OUTSIDE;
        if (!isWord(word)) return UNKNOWN;
        if (lore.sayings >= MOST_SAYINGS) return FULL;
        return lore.addSaying(kind, word, n);
    }

    public int as(int saying, int kind) {
        if (!isSaying(saying)) return UNKNOWN;
        if (!isKind(kind)) return OUTSIDE;
        return lore.isOfKind(saying, kind) ? saying : NONE;
    }

    public int fits(int saying, int thing) {
        if (!isSaying(saying) || !isThing(thing)) return UNKNOWN;
        return lore.leastSense(saying, thing);
    }

    // ---- riddles

    public int riddle(int saying) {
        if (!isSaying(saying)) return UNKNOWN;
        if (riddles.size >= MOST_RIDDLES) return FULL;
        return riddles.begin(saying);
    }

    public int more(int riddle, int saying) {
        if (!isRiddle(riddle) || !isSaying(saying)) return UNKNOWN;
        if (riddles.lengths[riddle] >= LONGEST_RIDDLE) return FULL;
        return riddles.append(riddle, saying);
    }

    public int said(int riddle, int i) {
        if (!isRiddle(riddle)) return UNKNOWN;
        if (i < 0 || i >= riddles.lengths[riddle]) return NONE;
        return riddles.sayingAt(riddle, i);
    }

    public int answers(int riddle) {
        if (!isRiddle(riddle)) return UNKNOWN;
        return riddles.fitting(riddle);
    }

    public int turns(int riddle, int thing) {
        if (!isRiddle(riddle) || !isThing(thing)) return UNKNOWN;
        return riddles.turnedOnes(riddle, thing);
    }

    public int judge(int riddle, int a, int b) {
        if (!isRiddle(riddle) || !isThing(a) || !isThing(b)) return UNKNOWN;
        int lesser = Math.min(a, b);
        int greater = Math.max(a, b);
        int turnsOfLesser = riddles.turnedOnes(riddle, lesser);
        int turnsOfGreater = riddles.turnedOnes(riddle, greater);
        if (turnsOfGreater == NONE) return turnsOfLesser == NONE ? NONE : lesser;
        return turnsOfLesser == NONE || turnsOfGreater < turnsOfLesser ? greater : lesser;
    }

    public int astray(int riddle, int what) {
        if (!isRiddle(riddle)) return UNKNOWN;
        if (what < 0 || what > 1) return OUTSIDE;
        int place = riddles.misleadingPlace(riddle);
        return what == 0 ? place : riddles.countWithout(riddle, place);
    }

    public int made(int thing, int k) {
        if (!isThing(thing)) return UNKNOWN;
        if (k < 1 || k > LONGEST_RIDDLE) return OUTSIDE;
        if (madeDone >= MOST_MADE) return STATE;
        madeDone++;
        return maker.fewest(lore, thing, k);
    }

    // ---- heads, tongues

    public int head(int plain, int turned) {
        if (plain < 0 || plain > SLOWEST || turned < 0 || turned > SLOWEST) return OUTSIDE;
        if (heads.size >= MOST_HEADS) return FULL;
        return heads.add(plain, turned);
    }

    public int hears(int head, int riddle, int what) {
        if (!isHead(head) || !isRiddle(riddle)) return UNKNOWN;
        if (what < 0 || what > 1) return OUTSIDE;
        int stage = heads.stageOfAnswer(head, riddle);
        return what == 0 ? heads.answerIn(stage, riddle) : heads.secondOf(stage, head);
    }

    public int parts(int what) {
        if (what < 0 || what > 1) return OUTSIDE;
        int parting = NONE;
        int most = NONE;
        for (int riddle = 0; riddle < riddles.size; riddle++) {
            int pairs = heads.unlikePairs(riddle);
            if (pairs > most) {
                parting = riddle;
                most = pairs;
            }
        }
        return what == 0 ? parting : most;
    }

    public int blind(int riddle, int thing) {
        if (!isRiddle(riddle) || !isThing(thing)) return UNKNOWN;
        return heads.answeringOther(riddle, thing);
    }

    public int tongue() {
        if (tongues.size >= MOST_TONGUES) return FULL;
        return tongues.add();
    }

    public int lack(int tongue, int word, int i, boolean is) {
        if (!isTongue(tongue) || !isWord(word)) return UNKNOWN;
        if (i < 0 || i >= MOST_SENSES) return OUTSIDE;
        boolean was = !tongues.sights[tongue].sees(word, i);
        tongues.sights[tongue].set(word, i, !is);
        return was ? 1 : 0;
    }

    public int goes(int riddle, int thing, int tongue, int what) {
        if (!isRiddle(riddle) || !isThing(thing) || !isTongue(tongue)) return UNKNOWN;
        if (what < 0 || what > 1) return OUTSIDE;
        return what == 0 ? tongues.carries(tongue, riddle, thing) : tongues.lacking(tongue, riddle, thing);
    }

    public int nearest(int riddle, int thing) {
        if (!isRiddle(riddle) || !isThing(thing)) return UNKNOWN;
        return tongues.leastLacking(riddle, thing);
    }

    // ---- lands

    public int letters(long w) {
        if (!Page.areLetters(w)) return OUTSIDE;
        if (page.size + Page.lettersIn(w) > LONGEST_PAGE) return FULL;
        return page.append(w);
    }

    public int blank() {
        return page.empty();
    }

    public int fault() {
        return draft.read(page);
    }

    public int tree() {
        if (draft.read(page) < page.size || !draft.isWhole()) return STATE;
        Tree old = told;
        told = draft;
        draft = old;
        page.empty();
        return told.nodes;
    }

    public int variant(int land, int v) {
        if (land < 0 || land >= LANDS) return UNKNOWN;
        if (v != NONE && (v < 0 || v >= VARIANTS)) return OUTSIDE;
        int was = variants[land];
        variants[land] = v;
        return was;
    }

    public int changes(int what) {
        if (what != 0 && (what < SURE_FROM || what > SURE_TO)) return OUTSIDE;
        if (!told.isWhole()) return STATE;
        if (what == 0) return ways.least(told, variants);
        if (what - SURE_FROM >= told.nodes) return NONE;
        ways.weighAll(told, variants);
        return ways.sureOf(what - SURE_FROM);
    }

    public int chance(int part) {
        if (part < 0 || part > 1) return OUTSIDE;
        if (!told.isWhole() || chanceDone >= MOST_CHANCES) return STATE;
        chanceDone++;
        deal.countWays(told, variants, ways);
        int divisor = greatestDivisor(deal.all, deal.few);
        return (part == 0 ? deal.few : deal.all) / divisor;
    }

    // ---- stakes

    public int stake(int head, int riddle, int v) {
        if (!isHead(head) || !isRiddle(riddle)) return UNKNOWN;
        if (v < 0 || v > MOST_STAKE) return OUTSIDE;
        return stakes.put(head, riddle, v);
    }

    public int whom(int head) {
        if (head != NONE && !isHead(head)) return UNKNOWN;
        long best = stakes.best(heads.size, riddles.size);
        return head == NONE ? Stakes.sumIn(best) : Stakes.riddleIn(best, head);
    }

    // ---- what is told

    public int count(int what) {
        switch (what) {
            case 0: return lore.things;
            case 1: return lore.senseCount();
            case 2: return lore.sayings;
            case 3: return riddles.size;
            case 4: return heads.size;
            case 5: return tongues.size;
            case 6: return told.nodes;
            case 7: return page.size;
            case 8: return madeDone;
            case 9: return chanceDone;
            default: return OUTSIDE;
        }
    }

    public long digest() {
        long h = digestLore(349);
        h = digestRiddles(h);
        h = digestTongues(h);
        h = digestLands(h);
        for (int i = 0; i < page.size; i++) h = 31 * h + page.codes[i];
        for (int what = 0; what < COUNTS; what++) h = 31 * h + count(what);
        return h;
    }

    private long digestLore(long before) {
        long h = before;
        for (int thing = 0; thing < lore.things; thing++) h = 31 * h + lore.traits[thing];
        for (int word = 0; word < WORDS; word++) {
            for (int i = 0; i < lore.senseCounts[word]; i++) h = 31 * h + lore.traitOf(word, i);
        }
        for (int saying = 0; saying < lore.sayings; saying++) {
            h = 31 * h + lore.kinds[saying];
            h = 31 * h + lore.words[saying];
            h = 31 * h + lore.numbers[saying];
            for (int thing = 0; thing < lore.things; thing++) h = 31 * h + lore.leastSense(saying, thing);
        }
        return h;
    }

    private long digestRiddles(long before) {
        long h = before;
        for (int riddle = 0; riddle < riddles.size; riddle++) {
            for (int i = 0; i < riddles.lengths[riddle]; i++) h = 31 * h + riddles.sayingAt(riddle, i);
            h = 31 * h + riddles.fitting(riddle);
            for (int head = 0; head < heads.size; head++) {
                int stage = heads.stageOfAnswer(head, riddle);
                h = 31 * h + heads.answerIn(stage, riddle);
                h = 31 * h + heads.secondOf(stage, head);
                h = 31 * h + stakes.of(head, riddle);
            }
        }
        return h;
    }

    private long digestTongues(long before) {
        long h = before;
        if (lore.things == 0) return h;
        for (int tongue = 0; tongue < tongues.size; tongue++) {
            for (int riddle = 0; riddle < riddles.size; riddle++) {
                h = 31 * h + tongues.carries(tongue, riddle, 0);
                h = 31 * h + tongues.lacking(tongue, riddle, 0);
            }
        }
        return h;
    }

    private long digestLands(long before) {
        long h = before;
        for (int land = 0; land < LANDS; land++) h = 31 * h + variants[land];
        if (!told.isWhole()) return h;
        h = 31 * h + ways.least(told, variants);
        ways.weighAll(told, variants);
        for (int node = 0; node < told.nodes; node++) h = 31 * h + ways.sureOf(node);
        return h;
    }

    private static boolean isWord(int word) {
        return word >= 0 && word < WORDS;
    }

    private static boolean isKind(int kind) {
        return kind >= 0 && kind < KINDS;
    }

    private boolean isThing(int thing) {
        return thing >= 0 && thing < lore.things;
    }

    private boolean isSaying(int saying) {
        return saying >= 0 && saying < lore.sayings;
    }

    private boolean isRiddle(int riddle) {
        return riddle >= 0 && riddle < riddles.size;
    }

    private boolean isHead(int head) {
        return head >= 0 && head < heads.size;
    }

    private boolean isTongue(int tongue) {
        return tongue >= 0 && tongue < tongues.size;
    }

    /** At least 1, so that it may divide whatever it is asked for. */
    private static int greatestDivisor(int a, int b) {
        int greater = a;
        int lesser = b;
        for (int i = 0; i < 64 && lesser != 0; i++) {
            int rest = greater % lesser;
            greater = lesser;
            lesser = rest;
        }
        return Math.max(greater, 1);
    }

    /** Which senses of each word, as bits, are there to fit by: those a head has come to, or those a tongue has. */
    private static final class Sight {
        private static final int ALL = 7;
        private final int[] seen = new int[WORDS];

        Sight(int senses) {
            Arrays.fill(seen, senses & ALL);
        }

        boolean sees(int word, int i) {
            return (seen[word] >> i & 1) != 0;
        }

        void set(int word, int i, boolean is) {
            if (is) seen[word] |= 1 << i;
            else seen[word] &= ~(1 << i);
        }
    }

    /** Things, words and sayings. Sets of things are bits, so that a saying is tried on all things at once. */
    private static final class Lore {
        private int things = 0;
        private int sayings = 0;
        private final int[] traits = new int[MOST_THINGS];
        private final int[] having = new int[TRAITS];
        private final int[] ofAtLeast = new int[MOST_NUMBER + 1];
        private final int[] senses = new int[WORDS * MOST_SENSES];
        private final int[] senseCounts = new int[WORDS];
        private final int[] kinds = new int[MOST_SAYINGS];
        private final int[] words = new int[MOST_SAYINGS];
        private final int[] numbers = new int[MOST_SAYINGS];
        // Of each saying and sense the things that it fits by it: asked far more often than things and senses come.
        private final int[] fittingBy = new int[MOST_SAYINGS * MOST_SENSES];

        int addThing(int traitsOfIt) {
            int bit = 1 << things;
            int size = Integer.bitCount(traitsOfIt);
            for (int trait = 0; trait < TRAITS; trait++) {
                if ((traitsOfIt >> trait & 1) != 0) having[trait] |= bit;
            }
            for (int n = 0; n <= MOST_NUMBER && n <= size; n++) ofAtLeast[n] |= bit;
            traits[things] = traitsOfIt;
            things++;
            fitAnew();
            return things - 1;
        }

        int addSense(int word, int trait) {
            senses[word * MOST_SENSES + senseCounts[word]] = trait;
            senseCounts[word]++;
            fitAnew();
            return senseCounts[word];
        }

        int addSaying(int kind, int word, int n) {
            kinds[sayings] = kind;
            words[sayings] = word;
            numbers[sayings] = n;
            sayings++;
            fitAnew();
            return sayings - 1;
        }

        int traitOf(int word, int i) {
            return senses[word * MOST_SENSES + i];
        }

        boolean hasSense(int word, int trait) {
            for (int i = 0; i < senseCounts[word]; i++) {
                if (traitOf(word, i) == trait) return true;
            }
            return false;
        }

        int senseCount() {
            int sum = 0;
            for (int word = 0; word < WORDS; word++) sum += senseCounts[word];
            return sum;
        }

        boolean isOfKind(int saying, int kind) {
            int own = kinds[saying];
            return kind == SAYING || kind == own || kind == BORROWED && own == FIGHTING;
        }

        int allThings() {
            return (1 << things) - 1;
        }

        /** The things that a saying fits by what is seen; a known thing needs no sense to be seen. */
        int fittingBySight(int saying, Sight sight) {
            int seen = kinds[saying] == KNOWN ? Sight.ALL : sight.seen[words[saying]];
            int fitting = 0;
            for (int i = 0; i < MOST_SENSES; i++) {
                if ((seen >> i & 1) != 0) fitting |= fittingBy[saying * MOST_SENSES + i];
            }
            return fitting;
        }

        int leastSense(int saying, int thing) {
            for (int i = 0; i < MOST_SENSES; i++) {
                if ((fittingBy[saying * MOST_SENSES + i] >> thing & 1) != 0) return i;
            }
            return NONE;
        }

        private void fitAnew() {
            for (int saying = 0; saying < sayings; saying++) {
                for (int i = 0; i < MOST_SENSES; i++) fittingBy[saying * MOST_SENSES + i] = tryOut(saying, i);
            }
        }

        private int tryOut(int saying, int i) {
            int word = words[saying];
            int n = numbers[saying];
            switch (kinds[saying]) {
                case PLAIN: return i == 0 ? havingSense(word, i) : 0;
                case BORROWED: return i > 0 ? havingSense(word, i) : 0;
                case FIGHTING: return i > 0 ? havingSense(word, i) & ~havingSense(word, 0) : 0;
                case COUNTED: return havingSense(word, i) & ofAtLeast[n];
                case KNOWN: return i == 0 && n < things ? 1 << n : 0;
                default: return havingSense(word, i);
            }
        }

        private int havingSense(int word, int i) {
            return i < senseCounts[word] ? having[traitOf(word, i)] : 0;
        }
    }

    /** Rows of sayings, and the things that fit all of a row. */
    private static final class Riddles {
        private final Lore lore;
        private final Sight full = new Sight(Sight.ALL);
        private final int[] rows = new int[MOST_RIDDLES * LONGEST_RIDDLE];
        private final int[] lengths = new int[MOST_RIDDLES];
        private int size = 0;

        Riddles(Lore lore) {
            this.lore = lore;
        }

        int begin(int saying) {
            append(size, saying);
            size++;
            return size - 1;
        }

        int append(int riddle, int saying) {
            rows[riddle * LONGEST_RIDDLE + lengths[riddle]] = saying;
            lengths[riddle]++;
            return lengths[riddle];
        }

        int sayingAt(int riddle, int place) {
            return rows[riddle * LONGEST_RIDDLE + place];
        }

        int fitting(int riddle) {
            return fittingWithout(riddle, NONE, full);
        }

        /** The things that all sayings fit but for the one at a place (NONE: all of them). */
        int fittingWithout(int riddle, int place, Sight sight) {
            int fitting = lore.allThings();
            for (int i = 0; i < lengths[riddle]; i++) {
                if (i != place) fitting &= lore.fittingBySight(sayingAt(riddle, i), sight);
            }
            return fitting;
        }

        int countWithout(int riddle, int place) {
            return Integer.bitCount(fittingWithout(riddle, place, full));
        }

        int misleadingPlace(int riddle) {
            int best = 0;
            int most = NONE;
            for (int place = 0; place < lengths[riddle]; place++) {
                int without = countWithout(riddle, place);
                if (without > most) {
                    best = place;
                    most = without;
                }
            }
            return best;
        }

        int turnedOnes(int riddle, int thing) {
            int turned = 0;
            for (int i = 0; i < lengths[riddle]; i++) {
                int sense = lore.leastSense(sayingAt(riddle, i), thing);
                if (sense == NONE) return NONE;
                if (sense > 0) turned++;
            }
            return turned;
        }

        int unfitCount(int riddle, int thing, Sight sight) {
            int unfit = 0;
            for (int i = 0; i < lengths[riddle]; i++) {
                if ((lore.fittingBySight(sayingAt(riddle, i), sight) >> thing & 1) == 0) unfit++;
            }
            return unfit;
        }
    }

    /** Looks for the fewest sayings that fit one thing alone, among those that fit it at all. */
    private static final class Maker {
        private final int[] fitting = new int[MOST_SAYINGS];
        private final int[] turned = new int[MOST_SAYINGS];
        private final int[] bits = new int[MOST_SAYINGS];
        // What fits all sayings from a place on: no choice among them leaves less.
        private final int[] fittingRest = new int[MOST_SAYINGS + 1];
        private final Sight full = new Sight(Sight.ALL);
        private int size;
        private int wanted;
        private int bestTurns;
        private int bestBits;

        int fewest(Lore lore, int thing, int k) {
            gather(lore, thing);
            bestTurns = NONE;
            bestBits = NONE;
            for (int left = 1; left <= k && bestBits == NONE; left++) {
                choose(this, 0, left, lore.allThings(), 0, 0);
            }
            return bestBits;
        }

        private void gather(Lore lore, int thing) {
            size = 0;
            wanted = 1 << thing;
            for (int saying = 0; saying < lore.sayings; saying++) {
                int sense = lore.leastSense(saying, thing);
                if (sense != NONE) {
                    fitting[size] = lore.fittingBySight(saying, full);
                    turned[size] = sense > 0 ? 1 : 0;
                    bits[size] = 1 << saying;
                    size++;
                }
            }
            fittingRest[size] = lore.allThings();
            for (int i = size - 1; i >= 0; i--) fittingRest[i] = fittingRest[i + 1] & fitting[i];
        }

        /** Chooses left more sayings from a place on; left is 6 at most and falls by 1 with each level. */
        private static void choose(Maker m, int from, int left, int things, int turns, int chosen) {
            if ((things & m.fittingRest[from]) != m.wanted) return;
            for (int i = from; i + left <= m.size; i++) {
                int still = things & m.fitting[i];
                if (left > 1) choose(m, i + 1, left - 1, still, turns + m.turned[i], chosen | m.bits[i]);
                else if (still == m.wanted) m.consider(turns + m.turned[i], chosen | m.bits[i]);
            }
        }

        private void consider(int turns, int chosen) {
            if (turns < bestTurns || turns == bestTurns && chosen > bestBits) return;
            bestTurns = turns;
            bestBits = chosen;
        }
    }

    /** Heads see ever more: no sense in stage 0, then one sense of each word more with each stage. */
    private static final class Heads {
        private static final int STAGES = MOST_SENSES + 1;
        private final Riddles riddles;
        private final Sight[] sights = new Sight[STAGES];
        private final int[] plain = new int[MOST_HEADS];
        private final int[] turned = new int[MOST_HEADS];
        private final int[] heard = new int[MOST_HEADS];
        private int size = 0;

        Heads(Riddles riddles) {
            this.riddles = riddles;
            for (int stage = 0; stage < STAGES; stage++) sights[stage] = new Sight((1 << stage) - 1);
        }

        int add(int plainSpeed, int turnedSpeed) {
            plain[size] = plainSpeed;
            turned[size] = turnedSpeed;
            size++;
            return size - 1;
        }

        int secondOf(int stage, int head) {
            if (stage == NONE) return NONE;
            return stage == 0 ? 0 : plain[head] + (stage - 1) * turned[head];
        }

        /** All stages lie below second 600, so that no second need be asked by itself. */
        int stageOfAnswer(int head, int riddle) {
            for (int stage = 0; stage < STAGES; stage++) {
                boolean lasts = stage == STAGES - 1 || secondOf(stage + 1, head) > secondOf(stage, head);
                if (lasts && answerIn(stage, riddle) != NONE) return stage;
            }
            return NONE;
        }

        /** The one thing that fits in a stage, NONE if there is not just one. */
        int answerIn(int stage, int riddle) {
            if (stage == NONE) return NONE;
            int fitting = riddles.fittingWithout(riddle, NONE, sights[stage]);
            // Of a lone bit, the number is that of the bits below it.
            return Integer.bitCount(fitting) == 1 ? Integer.bitCount(fitting - 1) : NONE;
        }

        private int answerOf(int head, int riddle) {
            return answerIn(stageOfAnswer(head, riddle), riddle);
        }

        int unlikePairs(int riddle) {
            int pairs = 0;
            for (int head = 0; head < size; head++) {
                heard[head] = answerOf(head, riddle);
                for (int other = 0; other < head; other++) {
                    if (heard[other] != heard[head]) pairs++;
                }
            }
            return pairs;
        }

        int answeringOther(int riddle, int thing) {
            int others = 0;
            for (int head = 0; head < size; head++) {
                if (answerOf(head, riddle) != thing) others++;
            }
            return others;
        }
    }

    /** Tongues, each told by the senses that it has. */
    private static final class Tongues {
        private final Riddles riddles;
        private final Sight[] sights = new Sight[MOST_TONGUES];
        private int size = 0;

        Tongues(Riddles riddles) {
            this.riddles = riddles;
            for (int tongue = 0; tongue < MOST_TONGUES; tongue++) sights[tongue] = new Sight(Sight.ALL);
        }

        int add() {
            size++;
            return size - 1;
        }

        int carries(int tongue, int riddle, int thing) {
            return riddles.fittingWithout(riddle, NONE, sights[tongue]) == 1 << thing ? 1 : 0;
        }

        int lacking(int tongue, int riddle, int thing) {
            return riddles.unfitCount(riddle, thing, sights[tongue]);
        }

        int leastLacking(int riddle, int thing) {
            int best = NONE;
            int least = LONGEST_RIDDLE + 1;
            for (int tongue = 0; tongue < size; tongue++) {
                int lacks = lacking(tongue, riddle, thing);
                if (lacks < least) {
                    best = tongue;
                    least = lacks;
                }
            }
            return best;
        }
    }

    /** Letters told by their codes, eight at most in a long, the lowest byte first. */
    private static final class Page {
        private final int[] codes = new int[LONGEST_PAGE];
        private int size = 0;

        private static int codeAt(long w, int i) {
            return (int) (w >>> 8 * i) & 255;
        }

        static int lettersIn(long w) {
            int letters = 0;
            while (letters < 8 && codeAt(w, letters) != 0) letters++;
            return letters;
        }

        static boolean areLetters(long w) {
            int letters = lettersIn(w);
            for (int i = 0; i < 8; i++) {
                int code = codeAt(w, i);
                if (code > MOST_LETTER || i > letters && code != 0) return false;
            }
            return true;
        }

        int append(long w) {
            int letters = lettersIn(w);
            for (int i = 0; i < letters && size < LONGEST_PAGE; i++) {
                codes[size] = codeAt(w, i);
                size++;
            }
            return size;
        }

        int empty() {
            int had = size;
            size = 0;
            return had;
        }
    }

    /** Nodes as they begin in a text: a node stands behind the one above it. */
    private static final class Tree {
        private final int[] above = new int[LONGEST_PAGE];
        private final int[] land = new int[LONGEST_PAGE];
        private final int[] kids = new int[LONGEST_PAGE];
        private int nodes = 0;
        private int lands = 0;
        private int open = NONE;
        private boolean awaitsNode = true;

        boolean isWhole() {
            return !awaitsNode && open == NONE;
        }

        /** The place of the first letter that no tree has there; the page's size if there is none. */
        int read(Page page) {
            nodes = 0;
            lands = 0;
            open = NONE;
            awaitsNode = true;
            for (int place = 0; place < page.size; place++) {
                if (!take(page.codes[place])) return place;
            }
            return page.size;
        }

        private boolean take(int code) {
            if (awaitsNode) return code == '(' ? openNode() : landNode(code - 'a');
            if (open == NONE) return false;
            if (code == ',') return awaitNext();
            return code == ')' && closeNode();
        }

        private boolean openNode() {
            open = beginNode(NONE);
            return true;
        }

        private boolean landNode(int named) {
            if (named < 0 || named >= LANDS || (lands >> named & 1) != 0) return false;
            lands |= 1 << named;
            beginNode(named);
            awaitsNode = false;
            return true;
        }

        /** Each letter begins one node at most, so that a page never begins more than there is room for. */
        private int beginNode(int named) {
            above[nodes] = open;
            land[nodes] = named;
            kids[nodes] = 0;
            if (open != NONE) kids[open]++;
            nodes++;
            return nodes - 1;
        }

        private boolean awaitNext() {
            awaitsNode = kids[open] < MOST_KIDS;
            return awaitsNode;
        }

        private boolean closeNode() {
            if (kids[open] < 2) return false;
            open = above[open];
            return true;
        }
    }

    /** Least changes of a tree, by the variant that a node has. */
    private static final class Changes {
        // Above what any tree can cost, for a variant that a land cannot have.
        private static final int NEVER = 1000;
        // Of each node and variant: least changes below the node, and of the whole tree.
        private final int[] below = new int[LONGEST_PAGE * VARIANTS];
        private final int[] whole = new int[LONGEST_PAGE * VARIANTS];
        private final int[] rest = new int[VARIANTS];

        int least(Tree tree, int[] variants) {
            weighBelow(tree, variants);
            return leastOf(below, 0);
        }

        void weighAll(Tree tree, int[] variants) {
            weighBelow(tree, variants);
            System.arraycopy(below, 0, whole, 0, VARIANTS);
            for (int node = 1; node < tree.nodes; node++) weighWhole(node, tree.above[node]);
        }

        int sureOf(int node) {
            int least = leastOf(whole, node * VARIANTS);
            int sure = NONE;
            for (int v = 0; v < VARIANTS; v++) {
                if (whole[node * VARIANTS + v] == least) {
                    if (sure != NONE) return NONE;
                    sure = v;
                }
            }
            return sure;
        }

        private void weighBelow(Tree tree, int[] variants) {
            for (int node = 0; node < tree.nodes; node++) {
                int land = tree.land[node];
                int own = land == NONE ? NONE : variants[land];
                for (int v = 0; v < VARIANTS; v++) {
                    below[node * VARIANTS + v] = own == NONE || own == v ? 0 : NEVER;
                }
            }
            for (int node = tree.nodes - 1; node > 0; node--) addToAbove(node, tree.above[node]);
        }

        private void addToAbove(int node, int above) {
            int changed = leastOf(below, node * VARIANTS) + 1;
            for (int v = 0; v < VARIANTS; v++) {
                below[above * VARIANTS + v] += Math.min(below[node * VARIANTS + v], changed);
            }
        }

        private void weighWhole(int node, int above) {
            int changed = leastOf(below, node * VARIANTS) + 1;
            for (int v = 0; v < VARIANTS; v++) {
                int share = Math.min(below[node * VARIANTS + v], changed);
                rest[v] = whole[above * VARIANTS + v] - share;
            }
            int changedRest = leastOf(rest, 0) + 1;
            for (int v = 0; v < VARIANTS; v++) {
                whole[node * VARIANTS + v] = below[node * VARIANTS + v] + Math.min(rest[v], changedRest);
            }
        }

        private static int leastOf(int[] costs, int from) {
            int least = costs[from];
            for (int v = 1; v < VARIANTS; v++) {
                if (costs[from + v] < least) least = costs[from + v];
            }
            return least;
        }
    }

    /**
     * Deals the variants of a tree's lands anew in all ways. Least changes ask only which lands have like
     * variants, so that of deals that differ by a swap of two variants that are there equally often one is
     * counted for all: the share stays the same.
     */
    private static final class Deal {
        private final int[] dealt = new int[LANDS];
        private final int[] seats = new int[LANDS];
        private final int[] had = new int[VARIANTS];
        private final int[] left = new int[VARIANTS];
        private int seatCount;
        private int bound;
        private int all;
        private int few;

        void countWays(Tree tree, int[] variants, Changes ways) {
            Arrays.fill(had, 0);
            seatCount = 0;
            for (int land = 0; land < LANDS; land++) {
                dealt[land] = variants[land];
                if ((tree.lands >> land & 1) != 0 && variants[land] != NONE) {
                    seats[seatCount] = land;
                    seatCount++;
                    had[variants[land]]++;
                }
            }
            System.arraycopy(had, 0, left, 0, VARIANTS);
            bound = ways.least(tree, variants);
            all = 0;
            few = 0;
            dealFrom(this, 0, tree, ways);
        }

        /** One level for each seat, eight at most. */
        private static void dealFrom(Deal d, int seat, Tree tree, Changes ways) {
            if (seat >= d.seatCount) {
                d.all++;
                if (ways.least(tree, d.dealt) <= d.bound) d.few++;
                return;
            }
            for (int v = 0; v < VARIANTS; v++) {
                if (d.left[v] > 0 && !d.hasTwinBefore(v)) {
                    d.left[v]--;
                    d.dealt[d.seats[seat]] = v;
                    dealFrom(d, seat + 1, tree, ways);
                    d.left[v]++;
                }
            }
        }

        private boolean hasTwinBefore(int v) {
            if (left[v] < had[v]) return false;
            for (int u = 0; u < v; u++) {
                if (had[u] == had[v] && left[u] == had[u]) return true;
            }
            return false;
        }
    }

    /**
     * Stakes, and whom to ask. A way to ask is one number: the stakes together, then a digit for each head,
     * head 0 first, that is the greater the lesser its riddle is, 0 for none; so the best way is the greatest.
     */
    private static final class Stakes {
        private static final int DIGITS = MOST_RIDDLES + 1;
        private static final long SUM_PLACE = 1771561;
        private static final long[] HEAD_PLACES = {161051, 14641, 1331, 121, 11, 1};
        private final int[] values = new int[MOST_HEADS * MOST_RIDDLES];
        private final long[] bestOf = new long[1 << MOST_HEADS];

        int of(int head, int riddle) {
            return values[head * MOST_RIDDLES + riddle];
        }

        int put(int head, int riddle, int v) {
            int was = of(head, riddle);
            values[head * MOST_RIDDLES + riddle] = v;
            return was;
        }

        long best(int heads, int riddles) {
            int sets = 1 << heads;
            Arrays.fill(bestOf, 0);
            for (int riddle = 0; riddle < riddles; riddle++) {
                // Greater sets first, so that those they build on have not been given this riddle yet.
                for (int set = sets - 1; set > 0; set--) giveRiddle(riddle, set, heads);
            }
            return bestOf[sets - 1];
        }

        private void giveRiddle(int riddle, int set, int heads) {
            for (int head = 0; head < heads; head++) {
                if ((set >> head & 1) != 0) {
                    long asked = of(head, riddle) * SUM_PLACE + (MOST_RIDDLES - riddle) * HEAD_PLACES[head];
                    bestOf[set] = Math.max(bestOf[set], bestOf[set ^ 1 << head] + asked);
                }
            }
        }

        static int sumIn(long way) {
            return (int) (way / SUM_PLACE);
        }

        static int riddleIn(long way, int head) {
            int digit = (int) (way / HEAD_PLACES[head] % DIGITS);
            return digit == 0 ? NONE : MOST_RIDDLES - digit;
        }
    }
}
