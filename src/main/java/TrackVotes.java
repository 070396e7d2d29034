/**
 * Tracks of a detector: hits on layers vote in a plane of curves, the cells with most votes become
 * tracks. The document ../shared/DOC.md numbers what each call promises.
 */
public final class TrackVotes {
    public static final int NONE = -1;

    private static final int NOBODY = -2;
    private static final int NOTHING = -100000;
    private static final long NO_FRACTION = -1000000000000L;

    private static final int MOST_LAYERS = 8;
    private static final int MOST_HITS = 60;
    private static final int MOST_PARTICLES = 12;
    private static final int MOST_TRACKS = 20;
    private static final int MOST_GHOSTS = 20;
    private static final int MOST_BENDS = 3;
    private static final int MOST_SLOPES = 20;
    private static final int MOST_SHAPES = (2 * MOST_BENDS + 1) * (2 * MOST_SLOPES + 1);
    private static final int MOST_BYTES = 500;
    private static final int MOST_DEEDS = 8;
    private static final int MOST_ACTS = 20;
    private static final int MOST_EVENTS = 200;
    private static final int MOST_WORKERS = 8;
    private static final int MOST_WAITING = 50;
    private static final int MOST_WRITTEN = 128;

    private static final int HIGHEST = 9999;
    private static final int LAST_TIME = 999;
    private static final int LEAST_NEED = 2;
    private static final int MOST_NEED = 8;

    private static final int BENDS = 0;
    private static final int SLOPES = 1;
    private static final int WIDTH = 2;
    private static final int NEED = 3;
    private static final int GAP = 4;
    private static final int FROM = 5;
    private static final int TO = 6;
    private static final int SPEED = 7;
    private static final int LIMIT = 8;
    private static final int SETTINGS = 9;
    private static final int[] FIRST_SETTING = {1, 10, 10, 3, 20, 0, 999, 100, 50};
    private static final int[] LEAST_SETTING = {0, 0, 1, 2, 0, 0, 0, 1, 0};
    private static final int[] MOST_SETTING = {3, 20, 500, 8, 999, 999, 999, 9999, 9999};

    private static final String THING_LETTERS = "nhvgmluo";

    private final State state = new State();
    private final State spare = new State();
    private final History history = new History();
    private final Tape tape = new Tape();
    private final Items items = new Items();
    private final Trigger reader = new Trigger();
    private final Picture picture = new Picture();
    private final Ghosts ghosts = new Ghosts();
    private final Waiting waiting = new Waiting();
    private final byte[] written = new byte[MOST_WRITTEN];
    private int writtenBytes = 0;
    private int latestFault = NONE;
    private int latestEnd = NONE;

    public TrackVotes() {
    }

    // ---- the tape and the texts on it

    public int feed(int a, int b, int c, int d, int e) {
        if (!tape.hasRoom(20)) {
            return NONE;
        }
        tape.putWord(a);
        tape.putWord(b);
        tape.putWord(c);
        tape.putWord(d);
        tape.putWord(e);
        return tape.length();
    }

    public int end(int n) {
        if (n < 0 || n > tape.length()) {
            return NONE;
        }
        tape.cutTo(n);
        return n;
    }

    public int text() {
        // The text works on a copy, so that a fault leaves nothing of it behind.
        spare.takeOver(state);
        int count = items.readText(tape, spare);
        latestFault = tape.faultPlace();
        tape.cutTo(0);
        if (count == NONE) {
            return NONE;
        }
        history.remember(state);
        state.takeOver(spare);
        forgetPicture();
        return count;
    }

    public int trigger() {
        int count = 0;
        latestFault = NONE;
        if (tape.length() > 0) {
            reader.readFrom(tape.bytes(), tape.length());
            latestFault = reader.faultPlace();
            count = reader.things();
        }
        if (latestFault == NONE) {
            history.remember(state);
            state.takeTrigger(tape.bytes(), tape.length());
        }
        tape.cutTo(0);
        return latestFault == NONE ? count : NONE;
    }

    public int acts() {
        int count = items.readActs(tape);
        latestFault = tape.faultPlace();
        tape.cutTo(0);
        if (count == NONE) {
            return NONE;
        }
        latestEnd = NONE;
        int done = 0;
        for (int i = 0; i < count; i++) {
            if (doAct(i) == NONE) {
                latestEnd = i;
                break;
            }
            done++;
        }
        return done;
    }

    private int doAct(int i) {
        switch (items.actLetter(i)) {
            case 'h':
                return add(items.actNumber(i, 0), items.actNumber(i, 1), items.actNumber(i, 2));
            case 'x':
                return strike(items.actNumber(i, 0));
            case 'd':
                return dead(items.actNumber(i, 0));
            case 'n':
                return need(items.actNumber(i, 0));
            default:
                return NONE;
        }
    }

    public int fault() {
        return latestFault;
    }

    public int ended() {
        return latestEnd;
    }

    // ---- what there is

    public int is(int what) {
        if (what >= 5 && what < 5 + SETTINGS) {
            return state.setting(what - 5);
        }
        switch (what) {
            case 0:
                return state.layers;
            case 1:
                return state.liveLayers();
            case 2:
                return state.hits;
            case 3:
                return state.countingHits();
            case 4:
                return state.particles;
            case 14:
                return history.deeds();
            case 15:
                return tape.length();
            default:
                return NONE;
        }
    }

    public int layer(int l, int what) {
        if (!state.hasLayer(l)) {
            return NONE;
        }
        switch (what) {
            case 0:
                return state.x[l];
            case 1:
                return state.alive[l] ? 1 : 0;
            case 2:
                return state.countingHitsOn(l);
            default:
                return NONE;
        }
    }

    public int hit(int h, int what) {
        if (!state.hasHit(h)) {
            return NOTHING;
        }
        switch (what) {
            case 0:
                return state.hitLayer[h];
            case 1:
                return state.hitY[h];
            case 2:
                return state.hitTime[h];
            case 3:
                return state.leftBy[h];
            case 4:
                return state.counts(h) ? 1 : 0;
            case 5:
                return picture.look(state).trackOf(h);
            default:
                return NOTHING;
        }
    }

    public int particle(int p, int what) {
        if (!state.hasParticle(p)) {
            return NOTHING;
        }
        switch (what) {
            case 0:
                return state.start[p];
            case 1:
                return state.slope[p];
            case 2:
                return state.bend[p];
            case 3:
                return state.countingHitsLeftBy(p);
            case 4:
                return picture.look(state).foundOf(p, picture.tracks());
            default:
                return NOTHING;
        }
    }

    public int lift(int l, int t, int k) {
        if (!state.hasLayer(l) || t < -99 || t > 99 || k < -99 || k > 99) {
            return NOTHING;
        }
        return state.slopeLift(l, t) + state.bendLift(l, k);
    }

    public int votes(int k, int t, int b) {
        if (!within(k, -state.setting(BENDS), state.setting(BENDS))
                || !within(t, -state.setting(SLOPES), state.setting(SLOPES))) {
            return NONE;
        }
        return state.votesFor(k, t, b);
    }

    // ---- tracks

    public int many(int what) {
        switch (what) {
            case 0:
                return thing('n');
            case 1:
                return thing('g');
            case 2:
                return thing('v');
            case 3:
                return thing('u');
            case 4:
                return thing('m');
            case 5:
                return thing('o');
            default:
                return NONE;
        }
    }

    public int track(int i, int what) {
        Track track = picture.look(state).trackAt(i);
        if (track == null) {
            return NOTHING;
        }
        switch (what) {
            case 0:
                return track.bend;
            case 1:
                return track.slope;
            case 2:
                return track.cell;
            case 3:
                return track.votes;
            case 4:
                return track.vertex;
            case 5:
                return track.flooredStart();
            case 6:
                return track.smear;
            case 7:
                return picture.mostLeftOn(i);
            case 8:
                return picture.purestOn(i);
            default:
                return NOTHING;
        }
    }

    public int of(int i, int l) {
        Track track = picture.look(state).trackAt(i);
        return track == null || !state.hasLayer(l) ? NONE : track.hitOn[l];
    }

    public long fit(int i, int what) {
        Track track = picture.look(state).trackAt(i);
        if (track == null) {
            return NO_FRACTION;
        }
        switch (what) {
            case 0:
                return upperOf(track.upperStart, track.lower);
            case 1:
                return lowerOf(track.upperStart, track.lower);
            case 2:
                return upperOf(track.upperSlope, track.lower);
            case 3:
                return lowerOf(track.upperSlope, track.lower);
            case 4:
                return upperOf(track.upperOff, track.lower);
            case 5:
                return lowerOf(track.upperOff, track.lower);
            default:
                return NO_FRACTION;
        }
    }

    public int vertex(int v, int what) {
        if (v < 0 || v >= picture.look(state).vertices()) {
            return NOTHING;
        }
        switch (what) {
            case 0:
                return picture.tracksIn(v);
            case 1:
                return picture.placeOf(v);
            default:
                return NOTHING;
        }
    }

    // ---- the trigger

    public int yes() {
        if (state.triggerBytes == 0) {
            return 0;
        }
        for (int i = 0; i < THING_LETTERS.length(); i++) {
            if (state.triggerHas(THING_LETTERS.charAt(i))) {
                reader.tell(i, thing(THING_LETTERS.charAt(i)));
            }
        }
        return reader.readFrom(state.trigger, state.triggerBytes) ? 1 : 0;
    }

    public int thing(int letter) {
        switch (letter) {
            case 'n':
                return picture.look(state).tracks();
            case 'h':
                return state.countingHits();
            case 'v':
                return picture.look(state).vertices();
            case 'g':
                return ghosts.look(state, picture.look(state)).count();
            case 'm':
                return picture.look(state).mostVotes();
            case 'l':
                return state.liveLayers();
            case 'u':
                return state.countingHits() - picture.look(state).hitsOnTracks();
            case 'o':
                return picture.look(state).greatestVertex();
            default:
                return NONE;
        }
    }

    // ---- events that wait

    public int work() {
        int bends = 2 * state.setting(BENDS) + 1;
        int slopes = 2 * state.setting(SLOPES) + 1;
        return state.countingHits() * bends * slopes + 10 * picture.look(state).tracks();
    }

    private static int ticksFor(int work, int speed) {
        return speed < 1 ? 1 : Math.max(1, (work + speed - 1) / speed);
    }

    public int queue(int n, int period, int w, int b, int what) {
        if (!mayQueue(n, period, b) || !within(w, 1, MOST_WORKERS)) {
            return NONE;
        }
        int ticks = ticksFor(work(), state.setting(SPEED));
        waiting.run(n, period, w, b, ticks, state.setting(LIMIT));
        switch (what) {
            case 0:
                return waiting.lost;
            case 1:
                return waiting.late;
            case 2:
                return waiting.most;
            case 3:
                return waiting.last;
            default:
                return NONE;
        }
    }

    public int workers(int n, int period, int b) {
        if (!mayQueue(n, period, b)) {
            return NONE;
        }
        int ticks = ticksFor(work(), state.setting(SPEED));
        for (int w = 1; w <= MOST_WORKERS; w++) {
            waiting.run(n, period, w, b, ticks, state.setting(LIMIT));
            if (waiting.lost == 0 && waiting.late == 0) {
                return w;
            }
        }
        return NOBODY;
    }

    private static boolean mayQueue(int n, int period, int b) {
        return within(n, 1, MOST_EVENTS) && within(period, 1, 999) && within(b, 0, MOST_WAITING);
    }

    // ---- what layers and thresholds are worth

    public int worth(int l) {
        return state.hasLayer(l) ? picture.look(state).worthOf(state, l) : NOTHING;
    }

    public int bestNeed(int what) {
        if (!within(what, 0, 2)) {
            return NONE;
        }
        int best = picture.look(state).theBestNeed();
        if (what == 0) {
            return best;
        }
        return what == 1 ? picture.foundBy(best) : picture.loneBy(best);
    }

    // ---- deeds

    public int add(int layer, int y, int time) {
        if (!state.mayHit(layer, y, time)) {
            return NONE;
        }
        history.remember(state);
        forgetPicture();
        return state.putHit(layer, y, time, NOBODY);
    }

    public int strike(int h) {
        if (!state.hasHit(h) || state.hitTime[h] < 0) {
            return NONE;
        }
        history.remember(state);
        forgetPicture();
        state.hitTime[h] = -1;
        return state.countingHits();
    }

    public int dead(int l) {
        if (!state.hasLayer(l)) {
            return NONE;
        }
        history.remember(state);
        forgetPicture();
        state.alive[l] = !state.alive[l];
        return state.alive[l] ? 1 : 0;
    }

    public int need(int n) {
        if (!within(n, LEAST_NEED, MOST_NEED)) {
            return NONE;
        }
        history.remember(state);
        forgetPicture();
        int before = state.setting(NEED);
        state.set(NEED, n);
        return before;
    }

    // ---- how far off

    public long cross(int i, int j, int what) {
        Track one = picture.look(state).trackAt(i);
        Track other = picture.trackAt(j);
        if (one == null || other == null || i == j || !within(what, 0, 1)) {
            return NO_FRACTION;
        }
        // The common part of both lower numbers is left out, so that the products stay small.
        long common = Math.max(1, commonDivisor(one.lower, other.lower));
        long oneLower = one.lower / common;
        long otherLower = other.lower / common;
        long lower = one.upperSlope * otherLower - other.upperSlope * oneLower;
        if (lower == 0) {
            return NOBODY;
        }
        long upper = other.upperStart * oneLower - one.upperStart * otherLower;
        return what == 0 ? upperOf(upper, lower) : lowerOf(upper, lower);
    }

    public int predicted(int i, int l) {
        Track track = picture.look(state).trackAt(i);
        return track == null || !state.hasLayer(l) ? NOTHING : track.heightAt(state, l);
    }

    public int missing(int i) {
        Track track = picture.look(state).trackAt(i);
        if (track == null) {
            return NONE;
        }
        int count = 0;
        for (int l = 0; l < state.layers; l++) {
            if (state.alive[l] && track.hitOn[l] < 0) {
                count++;
            }
        }
        return count;
    }

    public int nearest(int i, int l) {
        Track track = picture.look(state).trackAt(i);
        if (track == null || !state.hasLayer(l)) {
            return NONE;
        }
        int height = track.heightAt(state, l);
        int best = NOBODY;
        int least = 0;
        for (int h = 0; h < state.hits; h++) {
            if (state.hitLayer[h] != l || !state.counts(h) || picture.trackOf(h) >= 0) {
                continue;
            }
            int away = Math.abs(state.hitY[h] - height);
            if (best < 0 || away < least) {
                best = h;
                least = away;
            }
        }
        return best;
    }

    public int offset(int l, int what) {
        if (!state.hasLayer(l) || !within(what, 0, 1)) {
            return NOTHING;
        }
        int count = 0;
        int sum = 0;
        int tracks = picture.look(state).tracks();
        for (int i = 0; i < tracks; i++) {
            Track track = picture.trackAt(i);
            if (track != null && track.hitOn[l] >= 0) {
                count++;
                sum += state.hitY[track.hitOn[l]] - track.heightAt(state, l);
            }
        }
        if (what == 1) {
            return count;
        }
        return count == 0 ? 0 : Math.floorDiv(sum, count);
    }

    public int align(int l, int by) {
        if (!state.hasLayer(l) || !within(by, -999, 999)) {
            return NONE;
        }
        history.remember(state);
        forgetPicture();
        int count = 0;
        for (int h = 0; h < state.hits; h++) {
            if (state.hitLayer[h] == l && isHeight(state.hitY[h] + by)) {
                state.hitY[h] += by;
                count++;
            }
        }
        return count;
    }

    public int ghost(int i, int what) {
        if (!within(i, 0, MOST_GHOSTS - 1) || !within(what, 0, 3)) {
            return NOTHING;
        }
        return ghosts.look(state, picture.look(state)).ofPlace(i, what);
    }

    public int window(int ticks, int what) {
        if (!within(ticks, 1, LAST_TIME + 1) || !within(what, 0, 1)) {
            return NONE;
        }
        int first = 0;
        int most = state.hitsBetween(0, ticks - 1);
        // The first best window begins at 0, or a hit comes into it with its last tick.
        for (int h = 0; h < state.hits; h++) {
            int begin = state.hitTime[h] - ticks + 1;
            if (begin <= 0) {
                continue;
            }
            int count = state.hitsBetween(begin, begin + ticks - 1);
            if (count > most || (count == most && begin < first)) {
                most = count;
                first = begin;
            }
        }
        return what == 0 ? first : most;
    }

    // ---- taken back, kept, written

    public int undo() {
        if (!history.takeBack(state)) {
            return NONE;
        }
        forgetPicture();
        return history.deeds();
    }

    public boolean keep(int k) {
        return history.store(k, state);
    }

    public boolean restore(int k) {
        if (!history.holds(k)) {
            return false;
        }
        history.remember(state);
        forgetPicture();
        return history.fetch(k, state);
    }

    public int write() {
        writtenBytes = 0;
        for (int l = 0; l < state.layers; l++) {
            writeSign('r');
            writeNumber(state.x[l]);
            writeSign(';');
        }
        writeSettings('s', BENDS, NEED);
        writeSettings('g', GAP, GAP);
        writeSettings('w', FROM, TO);
        writeSettings('q', SPEED, LIMIT);
        return writtenBytes;
    }

    private void writeSettings(char letter, int first, int last) {
        writeSign(letter);
        for (int i = first; i <= last; i++) {
            writeNumber(state.setting(i));
            writeSign(i < last ? ',' : ';');
        }
    }

    private void writeNumber(int number) {
        for (int unit = 1000; unit >= 1; unit /= 10) {
            if (number >= unit || unit == 1) {
                writeSign((char) ('0' + number / unit % 10));
            }
        }
    }

    private void writeSign(char sign) {
        if (writtenBytes < MOST_WRITTEN) {
            written[writtenBytes] = (byte) sign;
            writtenBytes++;
        }
    }

    public int octet(int k) {
        return k < 0 || k >= writtenBytes ? NONE : written[k] & 255;
    }

    // ---- what is worked out when it is asked for

    private void forgetPicture() {
        picture.forget();
        ghosts.forget();
    }

    // ---- numbers

    private static boolean within(int number, int least, int most) {
        return number >= least && number <= most;
    }

    private static boolean isHeight(int y) {
        return y >= -HIGHEST && y <= HIGHEST;
    }

    private static boolean isDigit(int sign) {
        return sign >= '0' && sign <= '9';
    }

    private static long commonDivisor(long one, long other) {
        long greater = Math.abs(one);
        long lesser = Math.abs(other);
        // A long's divisor is found within some ninety steps.
        for (int step = 0; step < 200 && lesser != 0; step++) {
            long rest = greater % lesser;
            greater = lesser;
            lesser = rest;
        }
        return greater;
    }

    private static long upperOf(long upper, long lower) {
        long common = commonDivisor(upper, lower);
        if (common == 0) {
            return 0;
        }
        return lower < 0 ? -upper / common : upper / common;
    }

    private static long lowerOf(long upper, long lower) {
        long common = commonDivisor(upper, lower);
        return common == 0 ? 1 : Math.abs(lower) / common;
    }

    /** All that deeds change: what is kept and taken back. */
    private static final class State {
        int layers = 0;
        final int[] x = new int[MOST_LAYERS];
        final boolean[] alive = new boolean[MOST_LAYERS];
        int hits = 0;
        final int[] hitLayer = new int[MOST_HITS];
        final int[] hitY = new int[MOST_HITS];
        final int[] hitTime = new int[MOST_HITS];
        final int[] leftBy = new int[MOST_HITS];
        int particles = 0;
        final int[] start = new int[MOST_PARTICLES];
        final int[] slope = new int[MOST_PARTICLES];
        final int[] bend = new int[MOST_PARTICLES];
        final int[] settings = FIRST_SETTING.clone();
        int triggerBytes = 0;
        final byte[] trigger = new byte[MOST_BYTES];

        void takeOver(State other) {
            layers = other.layers;
            System.arraycopy(other.x, 0, x, 0, layers);
            System.arraycopy(other.alive, 0, alive, 0, layers);
            hits = other.hits;
            System.arraycopy(other.hitLayer, 0, hitLayer, 0, hits);
            System.arraycopy(other.hitY, 0, hitY, 0, hits);
            System.arraycopy(other.hitTime, 0, hitTime, 0, hits);
            System.arraycopy(other.leftBy, 0, leftBy, 0, hits);
            particles = other.particles;
            System.arraycopy(other.start, 0, start, 0, particles);
            System.arraycopy(other.slope, 0, slope, 0, particles);
            System.arraycopy(other.bend, 0, bend, 0, particles);
            System.arraycopy(other.settings, 0, settings, 0, SETTINGS);
            takeTrigger(other.trigger, other.triggerBytes);
        }

        void takeTrigger(byte[] signs, int length) {
            triggerBytes = Math.max(0, Math.min(length, MOST_BYTES));
            System.arraycopy(signs, 0, trigger, 0, triggerBytes);
        }

        boolean triggerHas(char letter) {
            for (int i = 0; i < triggerBytes; i++) {
                if (trigger[i] == letter) {
                    return true;
                }
            }
            return false;
        }

        boolean hasLayer(int l) {
            return l >= 0 && l < layers;
        }

        boolean hasHit(int h) {
            return h >= 0 && h < hits;
        }

        boolean hasParticle(int p) {
            return p >= 0 && p < particles;
        }

        int setting(int which) {
            return which >= 0 && which < SETTINGS ? settings[which] : NONE;
        }

        void set(int which, int number) {
            if (which >= 0 && which < SETTINGS) {
                settings[which] = number;
            }
        }

        boolean counts(int h) {
            return hasHit(h) && alive[hitLayer[h]]
                    && within(hitTime[h], settings[FROM], settings[TO]);
        }

        int countingHits() {
            int count = 0;
            for (int h = 0; h < hits; h++) {
                if (counts(h)) {
                    count++;
                }
            }
            return count;
        }

        int countingHitsOn(int l) {
            int count = 0;
            for (int h = 0; h < hits; h++) {
                if (hitLayer[h] == l && counts(h)) {
                    count++;
                }
            }
            return count;
        }

        int countingHitsLeftBy(int p) {
            int count = 0;
            for (int h = 0; h < hits; h++) {
                if (leftBy[h] == p && counts(h)) {
                    count++;
                }
            }
            return count;
        }

        int hitsBetween(int first, int last) {
            int count = 0;
            for (int h = 0; h < hits; h++) {
                if (alive[hitLayer[h]] && within(hitTime[h], first, last)) {
                    count++;
                }
            }
            return count;
        }

        int liveLayers() {
            int count = 0;
            for (int l = 0; l < layers; l++) {
                if (alive[l]) {
                    count++;
                }
            }
            return count;
        }

        int slopeLift(int l, int t) {
            return hasLayer(l) ? Math.floorDiv(t * x[l], 100) : 0;
        }

        int bendLift(int l, int k) {
            return hasLayer(l) ? Math.floorDiv(k * x[l] * x[l], 10000) : 0;
        }

        int votesFor(int k, int t, int b) {
            int width = Math.max(1, settings[WIDTH]);
            int voters = 0;
            for (int h = 0; h < hits; h++) {
                int l = hitLayer[h];
                int flat = hitY[h] - slopeLift(l, t) - bendLift(l, k);
                if (counts(h) && Math.floorDiv(flat, width) == b) {
                    voters |= 1 << l;
                }
            }
            return Integer.bitCount(voters);
        }

        boolean putLayer(int distance) {
            if (layers >= MOST_LAYERS) {
                return false;
            }
            x[layers] = distance;
            alive[layers] = true;
            layers++;
            return true;
        }

        boolean mayHit(int l, int y, int time) {
            return hasLayer(l) && isHeight(y) && within(time, 0, LAST_TIME) && hits < MOST_HITS;
        }

        int putHit(int l, int y, int time, int particle) {
            if (!mayHit(l, y, time)) {
                return NONE;
            }
            hitLayer[hits] = l;
            hitY[hits] = y;
            hitTime[hits] = time;
            leftBy[hits] = particle;
            hits++;
            return hits - 1;
        }

        /** False: there is no room for it or for a hit that it leaves (the state is spoilt then). */
        boolean putParticle(int z, int t, int k) {
            if (particles >= MOST_PARTICLES) {
                return false;
            }
            start[particles] = z;
            slope[particles] = t;
            bend[particles] = k;
            particles++;
            for (int l = 0; l < layers; l++) {
                int y = z + slopeLift(l, t) + bendLift(l, k);
                if (isHeight(y) && putHit(l, y, x[l] / 10, particles - 1) == NONE) {
                    return false;
                }
            }
            return true;
        }
    }

    /** The states ahead of the latest deeds, and the kept ones. */
    private static final class History {
        private final State[] before = new State[MOST_DEEDS];
        private int newest = 0;
        private int count = 0;
        private final State[] kept = new State[2];
        private final boolean[] there = new boolean[2];

        History() {
            for (int i = 0; i < MOST_DEEDS; i++) {
                before[i] = new State();
            }
            kept[0] = new State();
            kept[1] = new State();
        }

        int deeds() {
            return count;
        }

        void remember(State state) {
            newest = (newest + 1) % MOST_DEEDS;
            before[newest].takeOver(state);
            count = Math.min(count + 1, MOST_DEEDS);
        }

        boolean takeBack(State into) {
            if (count == 0) {
                return false;
            }
            into.takeOver(before[newest]);
            newest = (newest + MOST_DEEDS - 1) % MOST_DEEDS;
            count--;
            return true;
        }

        boolean holds(int k) {
            return (k == 0 || k == 1) && there[k];
        }

        boolean store(int k, State state) {
            if (k != 0 && k != 1) {
                return false;
            }
            kept[k].takeOver(state);
            there[k] = true;
            return true;
        }

        boolean fetch(int k, State into) {
            if (!holds(k)) {
                return false;
            }
            into.takeOver(kept[k]);
            return true;
        }
    }

    /** The bytes that were fed, and how far they have been read. */
    private static final class Tape {
        private final byte[] signs = new byte[MOST_BYTES];
        private int length = 0;
        private int place = 0;
        private int fault = NONE;
        private int number = 0;
        private int numberPlace = 0;

        int length() {
            return length;
        }

        byte[] bytes() {
            return signs;
        }

        boolean hasRoom(int bytes) {
            return length + bytes <= MOST_BYTES;
        }

        void putWord(int word) {
            for (int shift = 24; shift >= 0 && length < MOST_BYTES; shift -= 8) {
                signs[length] = (byte) (word >>> shift);
                length++;
            }
        }

        void cutTo(int n) {
            length = Math.max(0, Math.min(n, length));
        }

        void begin() {
            place = 0;
            fault = NONE;
        }

        int faultPlace() {
            return fault;
        }

        boolean fail(int at) {
            fault = at;
            return false;
        }

        boolean atEnd() {
            return place >= length;
        }

        int place() {
            return place;
        }

        /** The byte to be read, NONE behind the last. */
        int peek() {
            return place >= 0 && place < length ? signs[place] & 255 : NONE;
        }

        int next() {
            int sign = peek();
            if (sign != NONE) {
                place++;
            }
            return sign;
        }

        boolean pass(char sign) {
            if (peek() != sign) {
                return fail(place);
            }
            place++;
            return true;
        }

        boolean readNumber() {
            numberPlace = place;
            boolean below = peek() == '-';
            if (below) {
                place++;
            }
            int value = 0;
            int digits = 0;
            for (; digits < 4 && isDigit(peek()); digits++) {
                value = value * 10 + next() - '0';
            }
            if (digits == 0 || isDigit(peek())) {
                return fail(place);
            }
            number = below ? -value : value;
            return true;
        }

        int number() {
            return number;
        }

        int numberPlace() {
            return numberPlace;
        }
    }

    /** Reads THE TEXT and ACTS: letters, each with some numbers and ; behind. */
    private static final class Items {
        private static final int MOST_NUMBERS = 4;
        private final int[] numbers = new int[MOST_NUMBERS];
        private final int[] actLetters = new int[MOST_ACTS];
        private final int[] actNumbers = new int[MOST_ACTS * MOST_NUMBERS];

        /** How many items came into the state; NONE: a fault (the state is spoilt then). */
        int readText(Tape tape, State into) {
            tape.begin();
            int count = 0;
            while (count < MOST_BYTES && !tape.atEnd()) {
                if (!readItem(tape, into)) {
                    return NONE;
                }
                count++;
            }
            return count;
        }

        private boolean readItem(Tape tape, State into) {
            int at = tape.place();
            int letter = tape.next();
            int count = numbersOfItem(letter);
            if (count == 0 || isFull(letter, into)) {
                return tape.fail(at);
            }
            for (int i = 0; i < count; i++) {
                if (!tape.readNumber()) {
                    return false;
                }
                if (!canBe(letter, i, tape.number(), into)) {
                    return tape.fail(tape.numberPlace());
                }
                numbers[i] = tape.number();
                if (!tape.pass(i + 1 < count ? ',' : ';')) {
                    return false;
                }
            }
            return put(letter, into) || tape.fail(at);
        }

        private static int numbersOfItem(int letter) {
            switch (letter) {
                case 'r':
                case 'g':
                    return 1;
                case 'w':
                case 'q':
                    return 2;
                case 'h':
                case 'p':
                    return 3;
                case 's':
                    return 4;
                default:
                    return 0;
            }
        }

        private static boolean isFull(int letter, State into) {
            switch (letter) {
                case 'r':
                    return into.layers >= MOST_LAYERS;
                case 'h':
                    return into.hits >= MOST_HITS;
                case 'p':
                    return into.particles >= MOST_PARTICLES;
                default:
                    return false;
            }
        }

        private boolean canBe(int letter, int i, int number, State into) {
            switch (letter) {
                case 'r':
                    return within(number, into.layers == 0 ? 1 : into.x[into.layers - 1] + 1, 999);
                case 'h':
                    return canBeOfHit(i, number, into);
                case 'p':
                    return canBeOfParticle(i, number);
                case 'w':
                    return isSetting(FROM + i, number) && (i == 0 || number >= numbers[0]);
                default:
                    return isSetting(firstSetting(letter) + i, number);
            }
        }

        private static boolean canBeOfHit(int i, int number, State into) {
            if (i == 0) {
                return into.hasLayer(number);
            }
            return i == 1 ? isHeight(number) : within(number, 0, LAST_TIME);
        }

        private static boolean canBeOfParticle(int i, int number) {
            if (i == 0) {
                return isHeight(number);
            }
            return i == 1 ? within(number, -50, 50) : within(number, -5, 5);
        }

        private static boolean isSetting(int which, int number) {
            return which >= 0 && which < SETTINGS
                    && within(number, LEAST_SETTING[which], MOST_SETTING[which]);
        }

        private static int firstSetting(int letter) {
            switch (letter) {
                case 's':
                    return BENDS;
                case 'g':
                    return GAP;
                case 'w':
                    return FROM;
                case 'q':
                    return SPEED;
                default:
                    return SETTINGS;
            }
        }

        private boolean put(int letter, State into) {
            switch (letter) {
                case 'r':
                    return into.putLayer(numbers[0]);
                case 'h':
                    return into.putHit(numbers[0], numbers[1], numbers[2], NOBODY) != NONE;
                case 'p':
                    return into.putParticle(numbers[0], numbers[1], numbers[2]);
                default:
                    for (int i = 0; i < numbersOfItem(letter); i++) {
                        into.set(firstSetting(letter) + i, numbers[i]);
                    }
                    return true;
            }
        }

        /** How many acts there are; NONE: a fault. */
        int readActs(Tape tape) {
            tape.begin();
            int count = 0;
            while (count < MOST_ACTS && !tape.atEnd()) {
                if (!readAct(tape, count)) {
                    return NONE;
                }
                count++;
            }
            if (!tape.atEnd()) {
                tape.fail(tape.place());
                return NONE;
            }
            return count;
        }

        private boolean readAct(Tape tape, int act) {
            int at = tape.place();
            int letter = tape.next();
            int count = numbersOfAct(letter);
            if (count == 0) {
                return tape.fail(at);
            }
            actLetters[act] = letter;
            for (int i = 0; i < count; i++) {
                if (!tape.readNumber()) {
                    return false;
                }
                actNumbers[act * MOST_NUMBERS + i] = tape.number();
                if (!tape.pass(i + 1 < count ? ',' : ';')) {
                    return false;
                }
            }
            return true;
        }

        private static int numbersOfAct(int letter) {
            switch (letter) {
                case 'h':
                    return 3;
                case 'x':
                case 'd':
                case 'n':
                    return 1;
                default:
                    return 0;
            }
        }

        int actLetter(int act) {
            return within(act, 0, MOST_ACTS - 1) ? actLetters[act] : NONE;
        }

        int actNumber(int act, int i) {
            return within(act, 0, MOST_ACTS - 1) && within(i, 0, MOST_NUMBERS - 1)
                    ? actNumbers[act * MOST_NUMBERS + i] : NONE;
        }
    }

    /** Reads a trigger and says at once whether it holds by the values that were told. */
    private static final class Trigger {
        private static final int MOST_THINGS = 30;
        private static final int DEEPEST = 6;
        private final int[] values = new int[THING_LETTERS.length()];
        private final byte[] signs = new byte[MOST_BYTES];
        private int length = 0;
        private int place = 0;
        private int things = 0;
        private int fault = NONE;

        void tell(int which, int value) {
            if (which >= 0 && which < values.length) {
                values[which] = value;
            }
        }

        int faultPlace() {
            return fault;
        }

        int things() {
            return things;
        }

        boolean readFrom(byte[] from, int bytes) {
            length = Math.max(0, Math.min(bytes, MOST_BYTES));
            System.arraycopy(from, 0, signs, 0, length);
            place = 0;
            things = 0;
            fault = NONE;
            boolean holds = readCond(0);
            if (fault == NONE && place < length) {
                fail(place);
            }
            return holds && fault == NONE;
        }

        private int peek() {
            return fault == NONE && place < length ? signs[place] & 255 : NONE;
        }

        /** The first fault stays: what is read behind it reads nothing. */
        private void fail(int at) {
            if (fault == NONE) {
                fault = at;
            }
        }

        private boolean readCond(int depth) {
            boolean holds = readBoth(depth);
            for (int round = 0; round < MOST_THINGS && peek() == '|'; round++) {
                place++;
                boolean other = readBoth(depth);
                holds = holds || other;
            }
            return holds;
        }

        private boolean readBoth(int depth) {
            boolean holds = readTest(depth);
            for (int round = 0; round < MOST_THINGS && peek() == '&'; round++) {
                place++;
                boolean other = readTest(depth);
                holds = holds && other;
            }
            return holds;
        }

        private boolean readTest(int depth) {
            int sign = peek();
            if (sign != '!' && sign != '(') {
                return readComparison();
            }
            if (depth >= DEEPEST) {
                fail(place);
                return false;
            }
            place++;
            if (sign == '!') {
                return !readTest(depth + 1);
            }
            boolean holds = readCond(depth + 1);
            if (peek() != ')') {
                fail(place);
                return false;
            }
            place++;
            return holds;
        }

        private boolean readComparison() {
            int left = readSum();
            int sign = peek();
            if (sign != '<' && sign != '>' && sign != '=') {
                fail(place);
                return false;
            }
            place++;
            int right = readSum();
            if (sign == '=') {
                return left == right;
            }
            return sign == '<' ? left < right : left > right;
        }

        private int readSum() {
            int sum = readThing();
            for (int round = 0; round < MOST_THINGS; round++) {
                int sign = peek();
                if (sign != '+' && sign != '-' && sign != '*') {
                    break;
                }
                place++;
                int thing = readThing();
                if (sign == '*') {
                    sum *= thing;
                } else {
                    sum += sign == '+' ? thing : -thing;
                }
            }
            return sum;
        }

        private int readThing() {
            int sign = peek();
            int which = sign == NONE ? NONE : THING_LETTERS.indexOf((char) sign);
            if (things >= MOST_THINGS || (which < 0 && !isDigit(sign))) {
                fail(place);
                return 0;
            }
            things++;
            if (which < 0) {
                return readNumber();
            }
            place++;
            return which < values.length ? values[which] : 0;
        }

        private int readNumber() {
            int value = 0;
            for (int digits = 0; digits < 4 && isDigit(peek()); digits++) {
                value = value * 10 + peek() - '0';
                place++;
            }
            if (isDigit(peek())) {
                fail(place);
            }
            return value;
        }
    }

    /** The cells for which some hits vote, of one shape (a bend and a slope) at a time. */
    private static final class Plane {
        private static final int SLOTS = 128;
        private int shapes = 0;
        private final int[] bends = new int[MOST_SHAPES];
        private final int[] slopes = new int[MOST_SHAPES];
        private final int[] bendLifts = new int[(2 * MOST_BENDS + 1) * MOST_LAYERS];
        private final int[] slopeLifts = new int[(2 * MOST_SLOPES + 1) * MOST_LAYERS];
        private int width = 1;
        private int voters = 0;
        private final int[] voter = new int[MOST_HITS];
        private final int[] voterLayer = new int[MOST_HITS];
        private final int[] voterY = new int[MOST_HITS];
        private int stamp = 0;
        private final int[] slotStamp = new int[SLOTS];
        private final int[] slotCell = new int[SLOTS];
        private final int[] slotLayers = new int[SLOTS];
        private final int[] slotVotes = new int[SLOTS];
        private int used = 0;
        private final int[] usedSlot = new int[MOST_HITS];
        private int bestVotes = 0;
        private int bestCell = 0;

        /** All hits that count vote, but for those of one layer. */
        void lay(State state, int without) {
            width = Math.max(1, state.setting(WIDTH));
            listShapes(state.setting(BENDS), state.setting(SLOPES));
            liftLayers(state);
            voters = 0;
            for (int h = 0; h < state.hits; h++) {
                if (state.hitLayer[h] != without && state.counts(h)) {
                    voter[voters] = h;
                    voterLayer[voters] = state.hitLayer[h];
                    voterY[voters] = state.hitY[h];
                    voters++;
                }
            }
        }

        /** In the order in which like cells are taken: by |k|, |t|, k, t. */
        private void listShapes(int mostBend, int mostSlope) {
            shapes = 0;
            for (int k = 0; k <= mostBend && k <= MOST_BENDS; k++) {
                for (int t = 0; t <= mostSlope && t <= MOST_SLOPES; t++) {
                    for (int side = 0; side < 4; side++) {
                        boolean bendAgain = side >= 2 && k == 0;
                        boolean slopeAgain = side % 2 == 1 && t == 0;
                        if (bendAgain || slopeAgain || shapes >= MOST_SHAPES) {
                            continue;
                        }
                        bends[shapes] = side < 2 ? -k : k;
                        slopes[shapes] = side % 2 == 0 ? -t : t;
                        shapes++;
                    }
                }
            }
        }

        private void liftLayers(State state) {
            int mostBend = Math.min(state.setting(BENDS), MOST_BENDS);
            int mostSlope = Math.min(state.setting(SLOPES), MOST_SLOPES);
            for (int l = 0; l < state.layers; l++) {
                for (int k = -mostBend; k <= mostBend; k++) {
                    bendLifts[(k + MOST_BENDS) * MOST_LAYERS + l] = state.bendLift(l, k);
                }
                for (int t = -mostSlope; t <= mostSlope; t++) {
                    slopeLifts[(t + MOST_SLOPES) * MOST_LAYERS + l] = state.slopeLift(l, t);
                }
            }
        }

        int shapes() {
            return shapes;
        }

        int bendOf(int shape) {
            return shape >= 0 && shape < shapes ? bends[shape] : 0;
        }

        int slopeOf(int shape) {
            return shape >= 0 && shape < shapes ? slopes[shape] : 0;
        }

        int layersThatVote() {
            int layers = 0;
            for (int i = 0; i < voters; i++) {
                layers |= 1 << voterLayer[i];
            }
            return Integer.bitCount(layers);
        }

        /** All voters vote for the cells of this shape. */
        void tally(int shape) {
            int bendRow = (bendOf(shape) + MOST_BENDS) * MOST_LAYERS;
            int slopeRow = (slopeOf(shape) + MOST_SLOPES) * MOST_LAYERS;
            stamp++;
            used = 0;
            bestVotes = 0;
            bestCell = 0;
            for (int i = 0; i < voters; i++) {
                int l = voterLayer[i];
                int flat = voterY[i] - bendLifts[bendRow + l] - slopeLifts[slopeRow + l];
                int cell = Math.floorDiv(flat, width);
                int slot = slotOf(cell);
                if ((slotLayers[slot] & 1 << l) != 0) {
                    continue;
                }
                slotLayers[slot] |= 1 << l;
                slotVotes[slot]++;
                int votes = slotVotes[slot];
                if (votes > bestVotes || (votes == bestVotes && cell < bestCell)) {
                    bestVotes = votes;
                    bestCell = cell;
                }
            }
        }

        /** Old slots aren't cleared: a slot without the latest stamp is empty. */
        private int slotOf(int cell) {
            int slot = cell & (SLOTS - 1);
            for (int step = 0; step < SLOTS && slotStamp[slot] == stamp; step++) {
                if (slotCell[slot] == cell) {
                    return slot;
                }
                slot = (slot + 1) & (SLOTS - 1);
            }
            slotStamp[slot] = stamp;
            slotCell[slot] = cell;
            slotLayers[slot] = 0;
            slotVotes[slot] = 0;
            if (used < MOST_HITS) {
                usedSlot[used] = slot;
                used++;
            }
            return slot;
        }

        int bestVotes() {
            return bestVotes;
        }

        int bestCell() {
            return bestCell;
        }

        int cells() {
            return used;
        }

        int cellAt(int i) {
            return i >= 0 && i < used ? slotCell[usedSlot[i]] : 0;
        }

        int votesAt(int i) {
            return i >= 0 && i < used ? slotVotes[usedSlot[i]] : 0;
        }

        /** The track takes the voter nearest to the middle of its cell on each layer. */
        void chooseHits(Track track) {
            int bendRow = (track.bend + MOST_BENDS) * MOST_LAYERS;
            int slopeRow = (track.slope + MOST_SLOPES) * MOST_LAYERS;
            int middle = track.cell * width + width / 2;
            int[] nearest = track.awayOn;
            for (int i = 0; i < voters; i++) {
                int l = voterLayer[i];
                int flat = voterY[i] - bendLifts[bendRow + l] - slopeLifts[slopeRow + l];
                if (Math.floorDiv(flat, width) != track.cell) {
                    continue;
                }
                int away = Math.abs(flat - middle);
                if (track.hitOn[l] < 0 || away < nearest[l]) {
                    track.hitOn[l] = voter[i];
                    nearest[l] = away;
                }
            }
        }

        /** The hits of a track vote no more; the others stay in their order. */
        void silence(Track track) {
            int left = 0;
            for (int i = 0; i < voters; i++) {
                if (track.hitOn[voterLayer[i]] != voter[i]) {
                    voter[left] = voter[i];
                    voterLayer[left] = voterLayer[i];
                    voterY[left] = voterY[i];
                    left++;
                }
            }
            voters = left;
        }
    }

    /** A cell that was taken, its hits, and the line through them. */
    private static final class Track {
        int bend = 0;
        int slope = 0;
        int cell = 0;
        int votes = 0;
        int vertex = 0;
        int smear = 0;
        final int[] hitOn = new int[MOST_LAYERS];
        final int[] awayOn = new int[MOST_LAYERS];
        /** Start, slope and off are told over one and the same lower number, which is above 0. */
        long lower = 1;
        long upperStart = 0;
        long upperSlope = 0;
        long upperOff = 0;

        void begin(int k, int t, int b, int count) {
            bend = k;
            slope = t;
            cell = b;
            votes = count;
            for (int l = 0; l < MOST_LAYERS; l++) {
                hitOn[l] = NOBODY;
            }
        }

        private long flatY(State state, int l) {
            return state.hasHit(hitOn[l]) ? state.hitY[hitOn[l]] - state.bendLift(l, bend) : 0;
        }

        void drawLine(State state) {
            long n = 0;
            long sumX = 0;
            long sumY = 0;
            long sumXX = 0;
            long sumXY = 0;
            long sumYY = 0;
            for (int l = 0; l < state.layers; l++) {
                if (hitOn[l] < 0) {
                    continue;
                }
                long x = state.x[l];
                long y = flatY(state, l);
                n++;
                sumX += x;
                sumY += y;
                sumXX += x * x;
                sumXY += x * y;
                sumYY += y * y;
            }
            // Two hits at least, on layers at unlike distances: it is above 0.
            lower = Math.max(1, n * sumXX - sumX * sumX);
            upperSlope = n * sumXY - sumX * sumY;
            upperStart = sumY * sumXX - sumX * sumXY;
            upperOff = lower * sumYY - upperStart * sumY - upperSlope * sumXY;
        }

        void measureSmear(State state) {
            long most = 0;
            for (int l = 0; l < state.layers; l++) {
                if (hitOn[l] >= 0) {
                    long line = upperStart + upperSlope * state.x[l];
                    most = Math.max(most, Math.abs(flatY(state, l) * lower - line));
                }
            }
            smear = (int) (most / Math.max(1, lower));
        }

        int flooredStart() {
            return (int) Math.floorDiv(upperStart, Math.max(1, lower));
        }

        int heightAt(State state, int l) {
            if (!state.hasLayer(l)) {
                return 0;
            }
            long line = upperStart + upperSlope * state.x[l];
            return (int) Math.floorDiv(line, Math.max(1, lower)) + state.bendLift(l, bend);
        }
    }

    /** Takes the cells with most votes, one behind the other. */
    private static final class Finder {
        private final Plane plane = new Plane();
        private final Track[] tracks = new Track[MOST_TRACKS];
        private int found = 0;
        /** No cell of a shape has more votes than this: hits only ever stop to vote. */
        private final int[] bound = new int[MOST_SHAPES];
        private int bestVotes = 0;
        private int bestCell = 0;

        Finder() {
            for (int i = 0; i < MOST_TRACKS; i++) {
                tracks[i] = new Track();
            }
        }

        int found() {
            return found;
        }

        Plane plane() {
            return plane;
        }

        Track trackAt(int i) {
            return i >= 0 && i < found ? tracks[i] : null;
        }

        void find(State state, int without, int need) {
            plane.lay(state, without);
            for (int shape = 0; shape < plane.shapes(); shape++) {
                bound[shape] = MOST_LAYERS;
            }
            found = 0;
            while (found < MOST_TRACKS) {
                int shape = bestShape(need);
                if (shape == NONE) {
                    break;
                }
                Track track = tracks[found];
                track.begin(plane.bendOf(shape), plane.slopeOf(shape), bestCell, bestVotes);
                plane.chooseHits(track);
                plane.silence(track);
                found++;
            }
        }

        private int bestShape(int need) {
            int best = NONE;
            int reach = plane.layersThatVote();
            bestVotes = need - 1;
            for (int shape = 0; shape < plane.shapes() && bestVotes < reach; shape++) {
                if (bound[shape] <= bestVotes) {
                    continue;
                }
                plane.tally(shape);
                bound[shape] = plane.bestVotes();
                if (plane.bestVotes() > bestVotes) {
                    best = shape;
                    bestVotes = plane.bestVotes();
                    bestCell = plane.bestCell();
                }
            }
            return best;
        }
    }

    /** Tracks, vertices and what particles have of them, as the state is now. */
    private static final class Picture {
        private boolean known = false;
        /** By the least NEED: the tracks of a greater one are the first of these. */
        private final Finder finder = new Finder();
        private final Finder lesser = new Finder();
        private int need = LEAST_NEED;
        private int tracks = 0;
        private int particles = 0;
        private final int[] trackOfHit = new int[MOST_HITS];
        private final int[] countingLeft = new int[MOST_PARTICLES];
        private final int[] shared = new int[MOST_PARTICLES * MOST_TRACKS];
        private int vertices = 0;
        private final int[] order = new int[MOST_TRACKS];
        private final int[] vertexTracks = new int[MOST_TRACKS];
        private final int[] vertexSum = new int[MOST_TRACKS];
        private final boolean[] worthKnown = new boolean[MOST_LAYERS];
        private final int[] worth = new int[MOST_LAYERS];

        void forget() {
            known = false;
        }

        /** Itself, drawn anew if the state has changed: each call that needs it begins so. */
        Picture look(State state) {
            if (known) {
                return this;
            }
            known = true;
            need = state.setting(NEED);
            particles = state.particles;
            finder.find(state, NONE, LEAST_NEED);
            tracks = tracksBy(need);
            for (int l = 0; l < MOST_LAYERS; l++) {
                worthKnown[l] = false;
            }
            shareHits(state);
            drawLines(state);
            orderTracks();
            joinVertices(state.setting(GAP));
            return this;
        }

        private int tracksBy(int least) {
            int count = 0;
            for (int i = 0; i < finder.found(); i++) {
                Track track = finder.trackAt(i);
                if (track != null && track.votes >= least) {
                    count++;
                }
            }
            return count;
        }

        private void shareHits(State state) {
            for (int h = 0; h < MOST_HITS; h++) {
                trackOfHit[h] = NOBODY;
            }
            for (int p = 0; p < particles; p++) {
                countingLeft[p] = state.countingHitsLeftBy(p);
                for (int i = 0; i < MOST_TRACKS; i++) {
                    shared[p * MOST_TRACKS + i] = 0;
                }
            }
            for (int i = 0; i < finder.found(); i++) {
                Track track = finder.trackAt(i);
                for (int l = 0; l < state.layers && track != null; l++) {
                    shareHit(state, track.hitOn[l], i);
                }
            }
        }

        private void shareHit(State state, int h, int i) {
            if (!state.hasHit(h)) {
                return;
            }
            if (i < tracks) {
                trackOfHit[h] = i;
            }
            int p = state.leftBy[h];
            if (state.hasParticle(p)) {
                shared[p * MOST_TRACKS + i]++;
            }
        }

        private void drawLines(State state) {
            for (int i = 0; i < tracks; i++) {
                Track track = finder.trackAt(i);
                if (track != null) {
                    track.drawLine(state);
                    track.measureSmear(state);
                }
            }
        }

        private void orderTracks() {
            for (int i = 0; i < tracks; i++) {
                int place = i;
                while (place > 0 && startOf(order[place - 1]) > startOf(i)) {
                    order[place] = order[place - 1];
                    place--;
                }
                order[place] = i;
            }
        }

        private int startOf(int i) {
            Track track = finder.trackAt(i);
            return track == null ? 0 : track.flooredStart();
        }

        private void joinVertices(int gap) {
            vertices = 0;
            for (int place = 0; place < tracks; place++) {
                int start = startOf(order[place]);
                if (place == 0 || start - startOf(order[place - 1]) > gap) {
                    vertexTracks[vertices] = 0;
                    vertexSum[vertices] = 0;
                    vertices++;
                }
                vertexTracks[vertices - 1]++;
                vertexSum[vertices - 1] += start;
                Track track = finder.trackAt(order[place]);
                if (track != null) {
                    track.vertex = vertices - 1;
                }
            }
        }

        int tracks() {
            return tracks;
        }

        Track trackAt(int i) {
            return i < tracks ? finder.trackAt(i) : null;
        }

        Plane plane() {
            return finder.plane();
        }

        int trackOf(int h) {
            return h >= 0 && h < MOST_HITS ? trackOfHit[h] : NOBODY;
        }

        int hitsOnTracks() {
            int count = 0;
            for (int i = 0; i < tracks; i++) {
                Track track = finder.trackAt(i);
                count += track == null ? 0 : track.votes;
            }
            return count;
        }

        int mostVotes() {
            Track first = trackAt(0);
            return first == null ? 0 : first.votes;
        }

        int vertices() {
            return vertices;
        }

        int tracksIn(int v) {
            return v >= 0 && v < vertices ? vertexTracks[v] : 0;
        }

        int placeOf(int v) {
            int count = tracksIn(v);
            return count == 0 ? 0 : Math.floorDiv(vertexSum[v], count);
        }

        int greatestVertex() {
            int most = 0;
            for (int v = 0; v < vertices; v++) {
                most = Math.max(most, vertexTracks[v]);
            }
            return most;
        }

        private int sharedOf(int p, int i) {
            return within(p, 0, MOST_PARTICLES - 1) && within(i, 0, MOST_TRACKS - 1)
                    ? shared[p * MOST_TRACKS + i] : 0;
        }

        /** The particle that left most hits of a track, NOBODY if none left one. */
        int purestOn(int i) {
            int best = NOBODY;
            int most = 0;
            for (int p = 0; p < particles; p++) {
                if (sharedOf(p, i) > most) {
                    most = sharedOf(p, i);
                    best = p;
                }
            }
            return best;
        }

        int mostLeftOn(int i) {
            return sharedOf(purestOn(i), i);
        }

        /** Which of the first tracks is FOUND of a particle. */
        int foundOf(int p, int first) {
            int best = NOBODY;
            int most = 0;
            for (int i = 0; i < first; i++) {
                if (sharedOf(p, i) > most) {
                    most = sharedOf(p, i);
                    best = i;
                }
            }
            return within(p, 0, MOST_PARTICLES - 1) && 2 * most >= countingLeft[p] ? best : NOBODY;
        }

        /** How many particles are found, were this the NEED. */
        int foundBy(int least) {
            int first = tracksBy(least);
            int count = 0;
            for (int p = 0; p < particles; p++) {
                if (foundOf(p, first) >= 0) {
                    count++;
                }
            }
            return count;
        }

        /** How many tracks are found of no particle, were this the NEED. */
        int loneBy(int least) {
            int first = tracksBy(least);
            int taken = 0;
            for (int p = 0; p < particles; p++) {
                int i = foundOf(p, first);
                if (i >= 0) {
                    taken |= 1 << i;
                }
            }
            return first - Integer.bitCount(taken);
        }

        /** The need by which most is found, less what is found of none; of like ones the least. */
        int theBestNeed() {
            int best = LEAST_NEED;
            int most = foundBy(LEAST_NEED) - loneBy(LEAST_NEED);
            for (int n = LEAST_NEED + 1; n <= MOST_NEED; n++) {
                int gain = foundBy(n) - loneBy(n);
                if (gain > most) {
                    most = gain;
                    best = n;
                }
            }
            return best;
        }

        int worthOf(State state, int l) {
            if (!state.hasLayer(l) || !state.alive[l]) {
                return 0;
            }
            if (!worthKnown[l]) {
                lesser.find(state, l, need);
                worth[l] = tracks - lesser.found();
                worthKnown[l] = true;
            }
            return worth[l];
        }
    }

    /** The cells with enough votes that are no track's. */
    private static final class Ghosts {
        private boolean known = false;
        private int count = 0;
        /** The first ghosts of each number of votes, a row of MOST_GHOSTS for each. */
        private final int[] listed = new int[MOST_LAYERS + 1];
        private final int[] bends = new int[(MOST_LAYERS + 1) * MOST_GHOSTS];
        private final int[] slopes = new int[(MOST_LAYERS + 1) * MOST_GHOSTS];
        private final int[] cells = new int[(MOST_LAYERS + 1) * MOST_GHOSTS];
        private final int[] sortedCell = new int[MOST_HITS];
        private final int[] sortedVotes = new int[MOST_HITS];

        void forget() {
            known = false;
        }

        int count() {
            return count;
        }

        /** Itself, gathered anew if the state has changed. */
        Ghosts look(State state, Picture picture) {
            if (!known) {
                gather(state, picture);
                known = true;
            }
            return this;
        }

        private void gather(State state, Picture picture) {
            count = 0;
            for (int votes = 0; votes <= MOST_LAYERS; votes++) {
                listed[votes] = 0;
            }
            int need = state.setting(NEED);
            Plane plane = picture.plane();
            plane.lay(state, NONE);
            if (plane.layersThatVote() < need) {
                return;
            }
            for (int shape = 0; shape < plane.shapes(); shape++) {
                plane.tally(shape);
                if (plane.bestVotes() >= need) {
                    gatherShape(plane, shape, need, picture);
                }
            }
        }

        private void gatherShape(Plane plane, int shape, int need, Picture picture) {
            int k = plane.bendOf(shape);
            int t = plane.slopeOf(shape);
            int sorted = sortCells(plane, need);
            for (int i = 0; i < sorted; i++) {
                if (!isTrack(picture, k, t, sortedCell[i])) {
                    count++;
                    list(sortedVotes[i], k, t, sortedCell[i]);
                }
            }
        }

        /** Cells with enough votes into the rows, by their b: how many. */
        private int sortCells(Plane plane, int need) {
            int sorted = 0;
            for (int i = 0; i < plane.cells() && sorted < MOST_HITS; i++) {
                int votes = plane.votesAt(i);
                if (votes < need) {
                    continue;
                }
                int cell = plane.cellAt(i);
                int place = sorted;
                while (place > 0 && sortedCell[place - 1] > cell) {
                    sortedCell[place] = sortedCell[place - 1];
                    sortedVotes[place] = sortedVotes[place - 1];
                    place--;
                }
                sortedCell[place] = cell;
                sortedVotes[place] = votes;
                sorted++;
            }
            return sorted;
        }

        private static boolean isTrack(Picture picture, int k, int t, int b) {
            for (int i = 0; i < picture.tracks(); i++) {
                Track track = picture.trackAt(i);
                if (track != null && track.bend == k && track.slope == t && track.cell == b) {
                    return true;
                }
            }
            return false;
        }

        private void list(int votes, int k, int t, int b) {
            if (!within(votes, 0, MOST_LAYERS) || listed[votes] >= MOST_GHOSTS) {
                return;
            }
            int at = votes * MOST_GHOSTS + listed[votes];
            bends[at] = k;
            slopes[at] = t;
            cells[at] = b;
            listed[votes]++;
        }

        int ofPlace(int i, int what) {
            int place = i;
            for (int votes = MOST_LAYERS; votes >= 0 && place >= 0; votes--) {
                if (place < listed[votes]) {
                    return tellGhost(votes, votes * MOST_GHOSTS + place, what);
                }
                place -= listed[votes];
            }
            return NOTHING;
        }

        private int tellGhost(int votes, int at, int what) {
            switch (what) {
                case 0:
                    return bends[at];
                case 1:
                    return slopes[at];
                case 2:
                    return cells[at];
                case 3:
                    return votes;
                default:
                    return NOTHING;
            }
        }
    }

    /** A run of like events that wait for workers. */
    private static final class Waiting {
        int lost = 0;
        int late = 0;
        int most = 0;
        int last = 0;
        private final int[] freeAt = new int[MOST_WORKERS];
        private final int[] beginAt = new int[MOST_EVENTS];

        /** Events take their turn as they come, so when each begins is known as it comes. */
        void run(int n, int period, int w, int b, int ticks, int limit) {
            lost = 0;
            late = 0;
            most = 0;
            last = 0;
            for (int i = 0; i < MOST_WORKERS; i++) {
                freeAt[i] = 0;
            }
            int taken = 0;
            int begun = 0;
            for (int i = 0; i < n && taken < MOST_EVENTS; i++) {
                int now = i * period;
                while (begun < taken && beginAt[begun] <= now) {
                    begun++;
                }
                int worker = firstFree(w);
                int begin = Math.max(now, freeAt[worker]);
                if (begin > now && taken - begun >= b) {
                    lost++;
                    continue;
                }
                beginAt[taken] = begin;
                taken++;
                freeAt[worker] = begin + ticks;
                if (begin > now) {
                    most = Math.max(most, taken - begun);
                }
                if (begin + ticks - now > limit) {
                    late++;
                }
                last = Math.max(last, begin + ticks);
            }
        }

        private int firstFree(int w) {
            int best = 0;
            for (int i = 1; i < w && i < MOST_WORKERS; i++) {
                if (freeAt[i] < freeAt[best]) {
                    best = i;
                }
            }
            return best;
        }
    }
}
