import java.util.Random;

/** Long runs of calls, drawn from told seeds, on the program and on the model at once. */
public final class ModelTest {
    // A step makes up to a hundred calls; behind the last one single calls fill up the 512 that an object is used for.
    private static final int RUNS = 240, LAST_STEP_AT = 400, CALLS = 512, MAKINGS = 400;
    private static final int[] ODD = {-1, -2, 0, 1, 2, 3, 5, 6, 7, 8, 9, 10, 11, 12, 15, 16, 19, 20, 23, 24, 39, 40, 99, 100, 999, 1000,
        16777215, 16777216, Integer.MAX_VALUE, Integer.MIN_VALUE};

    private final Random random;
    private final int run;
    private final MouthRiddles x = new MouthRiddles();
    private final Model m = new Model();
    private String call = "";
    private int calls = 0;
    private int wrong = 0;

    private ModelTest(int run) {
        this.run = run;
        // Seeds that lie close together draw alike at first, so they are spread.
        this.random = new Random((run + 1) * 0x9E3779B97F4A7C15L);
    }

    public static void main(String[] args) {
        int wrong = 0;
        for (int run = 0; run < RUNS; run++) wrong += new ModelTest(run).go();
        for (int run = 0; run < MAKINGS; run++) wrong += new ModelTest(RUNS + run).goMaking();
        System.out.println(wrong == 0 ? "ModelTest: all answers are as due" : "ModelTest: " + wrong + " answers are not as due");
        if (wrong != 0) System.exit(1);
    }

    private int go() {
        for (int i = 0; calls < LAST_STEP_AT && wrong < 5; i++) {
            if (i % 40 == 39) digest();
            else step(i);
        }
        while (calls < CALLS - 1 && wrong < 5) singleCall();
        digest();
        if (calls != CALLS && wrong < 5) throw new IllegalStateException("run " + run + " has " + calls + " calls");
        return wrong;
    }

    private void singleCall() {
        int part = below(5);
        if (part == 0) lore();
        else if (part == 1) riddles();
        else if (part == 2) heads();
        else if (part == 3) tongues();
        else stakes();
    }

    /** Things that share many of their traits: riddles for one alone take several sayings, in several ways. */
    private int goMaking() {
        int things = 2 + below(11), sayings = 4 + below(17);
        boolean dense = below(2) == 0;
        for (int t = 0; t < things; t++) {
            int traits = dense ? 4095 & ~(1 << below(12)) & ~(1 << below(12))
                : random.nextInt(4096) | random.nextInt(4096) & random.nextInt(4096);
            call = "thing(" + traits + ")";
            due(x.thing(traits), m.thing(traits));
        }
        for (int w = 0; w < (dense ? 18 : 24); w++) {
            int trait = below(12), word = w % 16;
            call = "sense(" + word + ", " + trait + ")";
            due(x.sense(word, trait), m.sense(word, trait));
        }
        for (int s = 0; s < sayings; s++) {
            int kind = below(3) > 0 ? below(2) : below(5), word = below(16), n = below(12);
            call = "saying(" + kind + ", " + word + ", " + n + ")";
            due(x.saying(kind, word, n), m.saying(kind, word, n));
        }
        for (int i = 0; i < 21; i++) {
            int thing = below(things), k = 1 + below(6);
            call = "made(" + thing + ", " + k + ")";
            due(x.made(thing, k), m.made(thing, k));
        }
        digest();
        return wrong;
    }

    private void due(long got, long want) {
        calls++;
        if (got == want) return;
        wrong++;
        System.out.println("run " + run + ": " + call + " answered " + got + ", due is " + want);
    }

    private void digest() {
        call = "digest()";
        due(x.digest(), m.digest());
    }

    private void step(int i) {
        // Early calls build, later ones ask; each run leans on one part, so that some grow full and some stay empty.
        int part = random.nextInt(5) == 0 ? run % 6 : random.nextInt(6);
        if (i < 120 && random.nextInt(3) > 0) part = random.nextInt(3);
        if (part == 0) lore();
        else if (part == 1) riddles();
        else if (part == 2) heads();
        else if (part == 3) tongues();
        else if (part == 4) lands();
        else stakes();
    }

    private int below(int bound) {
        return random.nextInt(bound);
    }

    /** Mostly a number that names one of size, now and then one that does not. */
    private int pick(int size) {
        if (size > 0 && below(12) > 0) return below(size);
        return below(3) == 0 ? size : ODD[below(ODD.length)];
    }

    private int traits() {
        int kind = below(8);
        if (kind == 0) return ODD[below(ODD.length)];
        int few = random.nextInt(1 << 24) & random.nextInt(1 << 24);
        if (kind < 5) return few & 255;
        return kind == 5 ? random.nextInt(1 << 24) : few;
    }

    private void lore() {
        int a, b, c;
        switch (below(9)) {
            case 0:
                a = traits();
                call = "thing(" + a + ")";
                due(x.thing(a), m.thing(a));
                break;
            case 1: case 2: case 3:
                a = below(3) > 0 ? below(5) : pick(16);
                b = below(3) > 0 ? below(8) : pick(24);
                call = "sense(" + a + ", " + b + ")";
                due(x.sense(a, b), m.sense(a, b));
                break;
            case 4:
                a = pick(16);
                b = pick(3);
                call = "senseOf(" + a + ", " + b + ")";
                due(x.senseOf(a, b), m.senseOf(a, b));
                break;
            case 5: case 6:
                a = pick(6);
                b = below(4) > 0 ? below(5) : pick(16);
                c = below(3) > 0 ? below(6) : pick(24);
                call = "saying(" + a + ", " + b + ", " + c + ")";
                due(x.saying(a, b, c), m.saying(a, b, c));
                break;
            case 7:
                a = pick(m.sayings.size());
                b = pick(6);
                call = "as(" + a + ", " + b + ")";
                due(x.as(a, b), m.as(a, b));
                break;
            default:
                a = pick(m.sayings.size());
                b = pick(m.things.size());
                call = "fits(" + a + ", " + b + ")";
                due(x.fits(a, b), m.fits(a, b));
        }
    }

    private void riddles() {
        int r = pick(m.riddles.size()), s = pick(m.sayings.size()), t = pick(m.things.size()), u = pick(m.things.size());
        int i = pick(6), what = pick(2);
        switch (below(10)) {
            case 0:
                call = "riddle(" + s + ")";
                due(x.riddle(s), m.riddle(s));
                break;
            case 1:
                call = "more(" + r + ", " + s + ")";
                due(x.more(r, s), m.more(r, s));
                break;
            case 2:
                call = "said(" + r + ", " + i + ")";
                due(x.said(r, i), m.said(r, i));
                break;
            case 3: case 4:
                call = "answers(" + r + ")";
                due(x.answers(r), m.answers(r));
                break;
            case 5:
                call = "turns(" + r + ", " + t + ")";
                due(x.turns(r, t), m.turns(r, t));
                break;
            case 6:
                call = "judge(" + r + ", " + t + ", " + u + ")";
                due(x.judge(r, t, u), m.judge(r, t, u));
                break;
            case 7: case 8:
                call = "astray(" + r + ", " + what + ")";
                due(x.astray(r, what), m.astray(r, what));
                break;
            default:
                int k = below(2) == 0 ? 6 : pick(7);
                call = "made(" + t + ", " + k + ")";
                due(x.made(t, k), m.made(t, k));
        }
    }

    private void heads() {
        int r = pick(m.riddles.size()), h = pick(m.heads.size()), t = pick(m.things.size()), what = pick(2);
        switch (below(7)) {
            case 0:
                int a = below(3) == 0 ? below(3) : pick(100), b = below(3) == 0 ? below(3) : pick(100);
                call = "head(" + a + ", " + b + ")";
                due(x.head(a, b), m.head(a, b));
                break;
            case 1: case 2: case 3:
                call = "hears(" + h + ", " + r + ", " + what + ")";
                due(x.hears(h, r, what), m.hears(h, r, what));
                break;
            case 4: case 5:
                call = "parts(" + what + ")";
                due(x.parts(what), m.parts(what));
                break;
            default:
                call = "blind(" + r + ", " + t + ")";
                due(x.blind(r, t), m.blind(r, t));
        }
    }

    private void tongues() {
        int r = pick(m.riddles.size()), t = pick(m.things.size()), g = pick(m.tongues.size()), what = pick(2);
        switch (below(8)) {
            case 0:
                call = "tongue()";
                due(x.tongue(), m.tongue());
                break;
            case 1: case 2: case 3:
                int w = below(3) > 0 ? below(5) : pick(16), i = pick(3);
                boolean is = below(3) > 0;
                call = "lack(" + g + ", " + w + ", " + i + ", " + is + ")";
                due(x.lack(g, w, i, is), m.lack(g, w, i, is));
                break;
            case 4: case 5: case 6:
                call = "goes(" + r + ", " + t + ", " + g + ", " + what + ")";
                due(x.goes(r, t, g, what), m.goes(r, t, g, what));
                break;
            default:
                call = "nearest(" + r + ", " + t + ")";
                due(x.nearest(r, t), m.nearest(r, t));
        }
    }

    private void lands() {
        int what = pick(2);
        switch (below(11)) {
            case 0:
                write(text());
                break;
            case 1: case 2:
                call = "blank()";
                due(x.blank(), m.blank());
                write(text());
                call = "tree()";
                due(x.tree(), m.tree());
                break;
            case 3:
                call = "fault()";
                due(x.fault(), m.fault());
                break;
            case 4:
                call = "tree()";
                due(x.tree(), m.tree());
                break;
            case 5: case 6: case 7:
                int land = pick(8), v = below(5) == 0 ? -1 : below(3) == 0 ? pick(8) : below(1 + run % 5);
                call = "variant(" + land + ", " + v + ")";
                due(x.variant(land, v), m.variant(land, v));
                break;
            case 8: case 9:
                int asked = below(4) == 0 ? 0 : below(9) > 0 ? 10 + below(16) : below(2) == 0 ? ODD[below(ODD.length)] : 10 + below(31);
                call = "changes(" + asked + ")";
                due(x.changes(asked), m.changes(asked));
                break;
            default:
                call = "chance(" + what + ")";
                due(x.chance(what), m.chance(what));
        }
    }

    private void write(String text) {
        for (int i = 0; i < text.length(); ) {
            int n = Math.min(text.length() - i, 1 + below(8));
            long w = 0;
            for (int j = 0; j < n; j++) w |= (long) text.charAt(i + j) << 8 * j;
            if (below(40) == 0) w |= (long) below(256) << 8 * below(8);
            call = "letters(" + w + ")";
            due(x.letters(w), m.letters(w));
            i += n;
            call = "fault()";
            due(x.fault(), m.fault());
        }
    }

    private String text() {
        char[] order = "abcdefgh".toCharArray();
        for (int i = 7; i > 0; i--) {
            int j = below(i + 1);
            char c = order[i];
            order[i] = order[j];
            order[j] = c;
        }
        StringBuilder t = new StringBuilder(node(new String(order, 0, 1 + below(8))));
        if (below(4) == 0) t.setCharAt(below(t.length()), "abcdefghi(),,) ".charAt(below(15)));
        if (below(8) == 0) t.insert(below(t.length() + 1), "(a,".charAt(below(3)));
        if (below(12) == 0) t.insert(0, "((((((((((((((((((((((((((((((((((((((((".substring(below(40)));
        if (below(12) == 0) t.append(",)ah(".charAt(below(5)));
        return t.toString();
    }

    private String node(String lands) {
        if (lands.length() == 1) return lands;
        int kids = 2 + below(Math.min(3, lands.length() - 1));
        StringBuilder t = new StringBuilder("(");
        int from = 0;
        for (int kid = 0; kid < kids; kid++) {
            int left = lands.length() - from - (kids - kid - 1);
            int size = kid == kids - 1 ? left : 1 + below(left);
            if (kid > 0) t.append(',');
            t.append(node(lands.substring(from, from + size)));
            from += size;
        }
        return t.append(')').toString();
    }

    private void stakes() {
        int h = pick(m.heads.size()), r = pick(m.riddles.size());
        if (below(4) > 0) {
            int v = below(3) > 0 ? below(1 + run % 4 * 3) : pick(1000);
            call = "stake(" + h + ", " + r + ", " + v + ")";
            due(x.stake(h, r, v), m.stake(h, r, v));
        } else if (below(3) > 0) {
            int asked = below(4) == 0 ? -1 : h;
            call = "whom(" + asked + ")";
            due(x.whom(asked), m.whom(asked));
        } else {
            int what = pick(10);
            call = "count(" + what + ")";
            due(x.count(what), m.count(what));
        }
    }
}
