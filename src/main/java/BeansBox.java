/**
 * A box in a kitchen that hears words by three sounds, does them, asks back or keeps silent, and
 * learns by what is taken back or let be. ../shared/DOC.md says what every call answers.
 */
public final class BeansBox {
    public static final int NONE = -1, UNKNOWN = -1000000001, OUTSIDE = -1000000002, NOT = -1000000003, FULL = -1000000004;

    private static final int MILLION = 1000000;
    private static final int BILLION = 1000000000;

    private static final int MOST_LETTERS = 240;
    private static final int MOST_WORDS = 8;
    private static final int MOST_VOICES = 4;
    private static final int MOST_SEEN = 6;
    private static final int MOST_ENTRIES = 15;
    private static final int MOST_UNDONE = 20;
    private static final int IMAGES = 2;

    /** What is counted up to two figures: costs, USUAL, how often on THE LIST, how often it may ask. */
    private static final int NINETY_NINE = 99;
    private static final int SOUNDS = 1000;
    private static final int FARTHEST = 27;
    private static final int HEARD_ENOUGH = 9000;
    private static final int MOST_DRAWN = 60;
    private static final int MOST_MUCH = 9999;

    private static final int DO = 0;
    private static final int ASK = 1;
    private static final int SILENCE = 2;

    private static final int STANDS_WRONG = 1;
    private static final int BAD_NUMBER = 2;
    private static final int TOO_MANY = 3;

    private final Reader reader = new Reader();
    private int faultPlace = NONE;
    private Kitchen kitchen = new Kitchen();
    /** Read into first, so that a text with a FAULT leaves the kitchen as it was. */
    private Kitchen spare = new Kitchen();

    private final Deeds now = new Deeds();
    /** What would be so; never what is so. */
    private final Deeds trial = new Deeds();
    private final Past past = new Past();
    private final Image[] images = new Image[IMAGES];
    private int drawn = 0;

    private final Pairs seen = new Pairs(MOST_SEEN);
    private final Pairs book = new Pairs(MOST_ENTRIES);

    public BeansBox() {
        for (int i = 0; i < IMAGES; i++) {
            images[i] = new Image();
        }
    }

    // ---- the kitchen

    public int feed(int letter) {
        if (letter < 0 || letter > 255) {
            return OUTSIDE;
        }
        return reader.append(letter) ? reader.length : FULL;
    }

    public int kitchen() {
        int kind = reader.readInto(spare);
        faultPlace = kind == 0 ? NONE : reader.place;
        reader.forget();
        if (kind != 0) {
            return -10 - kind;
        }
        Kitchen read = spare;
        spare = kitchen;
        kitchen = read;
        now.begin(kitchen);
        past.clear();
        for (int i = 0; i < IMAGES; i++) {
            images[i].kept = false;
        }
        seen.clear();
        book.clear();
        return kitchen.words;
    }

    public int fault() {
        return faultPlace;
    }

    public int told(int what) {
        switch (what) {
            case 0: return kitchen.askCost;
            case 1: return kitchen.silenceCost;
            case 2: return kitchen.wakeSound;
            case 3: return kitchen.words;
            case 4: return kitchen.voices;
            case 5: return reader.length;
            case 6: return now.heard;
            case 7: return now.cross;
            case 8: return now.kept;
            case 9: return now.allOnList();
            case 10: return seen.count;
            case 11: return book.count;
            case 12: return past.count;
            default: return OUTSIDE;
        }
    }

    public int word(int w, int what) {
        if (!isWord(w)) {
            return UNKNOWN;
        }
        switch (what) {
            case 0: return now.sounds[w];
            case 1: return now.usual[w];
            case 2: return kitchen.wrongCosts[w];
            case 3: return now.onList[w];
            default: return OUTSIDE;
        }
    }

    public int voice(int v) {
        return isVoice(v) ? kitchen.shifts[v] : UNKNOWN;
    }

    // ---- what is done

    public int hear(int sound) {
        if (!isSound(sound)) {
            return OUTSIDE;
        }
        if (kitchen.words == 0) {
            return NOT;
        }
        if (now.heard > HEARD_ENOUGH) {
            return FULL;
        }
        past.push(now);
        return takeIn(sound);
    }

    public int takeBack(int w) {
        if (!isWord(w)) {
            return UNKNOWN;
        }
        if (now.kept == NONE || now.kept == w) {
            return NOT;
        }
        past.push(now);
        now.correctTo(w);
        return now.usual[w];
    }

    public int letBe() {
        int g = now.kept;
        if (!isWord(g)) {
            return NOT;
        }
        past.push(now);
        now.confirm();
        return now.usual[g];
    }

    public int call(int w, int sound) {
        if (!isWord(w)) {
            return UNKNOWN;
        }
        if (!isSound(sound)) {
            return OUTSIDE;
        }
        past.push(now);
        int far = apart(now.sounds[w], sound);
        now.sounds[w] = sound;
        return far;
    }

    public int drift(int n) {
        if (n < 1 || n > MOST_DRAWN) {
            return OUTSIDE;
        }
        if (!kitchen.stands) {
            return NOT;
        }
        if (now.heard > HEARD_ENOUGH) {
            return FULL;
        }
        past.push(now);
        if (kitchen.words > 0 && kitchen.voices > 0) {
            for (int i = 0; i < n; i++) {
                int v = draw(kitchen.voices);
                int w = draw(kitchen.words);
                takeIn(spoken(w, v));
                now.learn(w, draw(3) == 0);
            }
        }
        return now.cross;
    }

    public int undo() {
        return past.pop(now) ? past.count : NOT;
    }

    // ---- tried

    public int guess(int sound) {
        return isSound(sound) ? now.strongest(sound) : OUTSIDE;
    }

    public int sure(int w, int sound) {
        if (!isWord(w)) {
            return UNKNOWN;
        }
        return isSound(sound) ? now.certainty(w, sound) : OUTSIDE;
    }

    public int rule(int sound) {
        if (!isSound(sound)) {
            return OUTSIDE;
        }
        return kitchen.words == 0 ? NOT : cheapest(now, sound);
    }

    public int worth(int sound, int what) {
        if (!isSound(sound) || what < DO || what > SILENCE) {
            return OUTSIDE;
        }
        return kitchen.words == 0 ? NOT : cost(now, sound, what);
    }

    public int said(int w, int v) {
        return isWord(w) && isVoice(v) ? spoken(w, v) : UNKNOWN;
    }

    public int misheard(int i) {
        int found = 0;
        for (int v = 0; v < kitchen.voices; v++) {
            for (int w = 0; w < kitchen.words; w++) {
                if (understood(w, v) != w) {
                    if (found == i) {
                        return 10 * v + w;
                    }
                    found++;
                }
            }
        }
        return i == NONE ? found : NONE;
    }

    public int who(int sound) {
        if (!isSound(sound)) {
            return OUTSIDE;
        }
        int set = 0;
        for (int v = 0; v < kitchen.voices; v++) {
            if (wordsSpokenAs(v, sound) != 0) {
                set |= 1 << v;
            }
        }
        return set;
    }

    public int meant(int v, int sound) {
        if (!isVoice(v)) {
            return UNKNOWN;
        }
        return isSound(sound) ? wordsSpokenAs(v, sound) : OUTSIDE;
    }

    public int alike(int n, int i) {
        if (!isDistance(n)) {
            return OUTSIDE;
        }
        int found = 0;
        for (int a = 0; a < kitchen.words; a++) {
            for (int b = a + 1; b < kitchen.words; b++) {
                if (apart(now.sounds[a], now.sounds[b]) <= n) {
                    if (found == i) {
                        return 10 * a + b;
                    }
                    found++;
                }
            }
        }
        return i == NONE ? found : NONE;
    }

    public int wake(int what) {
        if (what != 0 && what != 1) {
            return OUTSIDE;
        }
        int best = 0;
        int farthest = now.nearest(0);
        for (int sound = 1; sound < SOUNDS; sound++) {
            int far = now.nearest(sound);
            if (far > farthest) {
                best = sound;
                farthest = far;
            }
        }
        return what == 0 ? best : farthest;
    }

    public int falsely(int v, int n) {
        if (!isVoice(v)) {
            return UNKNOWN;
        }
        if (!isDistance(n)) {
            return OUTSIDE;
        }
        int set = 0;
        for (int w = 0; w < kitchen.words; w++) {
            if (apart(spoken(w, v), kitchen.wakeSound) <= n) {
                set |= 1 << w;
            }
        }
        return set;
    }

    public int needs(int w, int v, int what) {
        if (!isWord(w) || !isVoice(v)) {
            return UNKNOWN;
        }
        if (what != 0 && what != 1) {
            return OUTSIDE;
        }
        int sound = spoken(w, v);
        trial.copy(now);
        for (int usual = 0; usual <= NINETY_NINE; usual++) {
            trial.usual[w] = usual;
            if (trial.strongest(sound) == w && (what == 0 || cheapest(trial, sound) == DO)) {
                return usual;
            }
        }
        return NONE;
    }

    public int bestCalled(int w, int what) {
        if (!isWord(w)) {
            return UNKNOWN;
        }
        if (what != 0 && what != 1) {
            return OUTSIDE;
        }
        trial.copy(now);
        int own = now.sounds[w];
        int best = own;
        int nearest = 0;
        int most = voicesHeardRight(w, own, 0);
        for (int sound = 0; sound < SOUNDS; sound++) {
            int far = apart(own, sound);
            int needed = far < nearest ? most : most + 1;
            int count = voicesHeardRight(w, sound, needed);
            if (count >= needed) {
                best = sound;
                nearest = far;
                most = count;
            }
        }
        return what == 0 ? best : most;
    }

    public int asks(int much) {
        if (much < 0 || much > MOST_MUCH) {
            return OUTSIDE;
        }
        int all = 0;
        for (int times = 0; times < NINETY_NINE; times++) {
            all += kitchen.askCost + now.cross + times;
            if (all > much) {
                return times;
            }
        }
        return NINETY_NINE;
    }

    public int waked(int n, int q) {
        if (n < 0 || n > MOST_DRAWN || q < 0 || q > 100) {
            return OUTSIDE;
        }
        long odds = BILLION;
        for (int i = 0; i < n; i++) {
            odds = odds * (100 - q) / 100;
        }
        return (int) odds;
    }

    // ---- what is seen

    public int see(int w, int g) {
        if (!isWord(w) || !isWord(g)) {
            return UNKNOWN;
        }
        return seen.append(w, g) ? seen.count : FULL;
    }

    public int speaker() {
        int set = 0;
        for (int v = 0; v < kitchen.voices; v++) {
            if (couldHaveSpoken(v)) {
                set |= 1 << v;
            }
        }
        return set;
    }

    public int sayNext() {
        int speakers = speaker();
        int best = NONE;
        int least = Integer.bitCount(speakers);
        for (int w = 0; w < kitchen.words; w++) {
            int part = greatestPart(w, speakers);
            if (part < least) {
                best = w;
                least = part;
            }
        }
        return best;
    }

    public int write(int w, int times) {
        if (!isWord(w)) {
            return UNKNOWN;
        }
        if (times < 0 || times > NINETY_NINE) {
            return OUTSIDE;
        }
        return book.append(w, times) ? book.count : FULL;
    }

    public int tear() {
        int both = seen.count + book.count;
        seen.clear();
        book.clear();
        return both;
    }

    public int judge() {
        for (int i = 0; i < book.count; i++) {
            int w = book.first[i];
            if (isWord(w) && now.onList[w] != book.second[i]) {
                return i;
            }
        }
        return NONE;
    }

    // ---- draws, images

    public int seed(int v) {
        if (v < 0) {
            return OUTSIDE;
        }
        int before = drawn;
        drawn = v;
        return before;
    }

    public int keep(int i) {
        if (!isImage(i)) {
            return UNKNOWN;
        }
        images[i].deeds.copy(now);
        images[i].drawn = drawn;
        images[i].kept = true;
        past.clear();
        return 1;
    }

    public int goBack(int i) {
        if (!isImage(i)) {
            return UNKNOWN;
        }
        if (!images[i].kept) {
            return NOT;
        }
        now.copy(images[i].deeds);
        drawn = images[i].drawn;
        past.clear();
        return 1;
    }

    // ---- what there is

    private boolean isWord(int w) {
        return w >= 0 && w < kitchen.words;
    }

    private boolean isVoice(int v) {
        return v >= 0 && v < kitchen.voices;
    }

    private static boolean isImage(int i) {
        return i >= 0 && i < IMAGES;
    }

    private static boolean isSound(int sound) {
        return sound >= 0 && sound < SOUNDS;
    }

    private static boolean isDistance(int n) {
        return n >= 0 && n <= FARTHEST;
    }

    // ---- sounds

    private static int apart(int a, int b) {
        return Math.abs(a / 100 - b / 100) + Math.abs(a / 10 % 10 - b / 10 % 10) + Math.abs(a % 10 - b % 10);
    }

    private static int shifted(int sound, int by) {
        int hundreds = (sound / 100 + by / 100) % 10;
        int tens = (sound / 10 + by / 10) % 10;
        int ones = (sound + by) % 10;
        return 100 * hundreds + 10 * tens + ones;
    }

    private int spoken(int w, int v) {
        return shifted(now.sounds[w], kitchen.shifts[v]);
    }

    /** The GUESS when a VOICE says a WORD. */
    private int understood(int w, int v) {
        return now.strongest(spoken(w, v));
    }

    private int wordsSpokenAs(int v, int sound) {
        int set = 0;
        for (int w = 0; w < kitchen.words; w++) {
            if (spoken(w, v) == sound) {
                set |= 1 << w;
            }
        }
        return set;
    }

    /** By how many VOICES a WORD of that SOUND is GUESSED itself in the trial; it stops counting once needed is out of reach. */
    private int voicesHeardRight(int w, int sound, int needed) {
        trial.sounds[w] = sound;
        int count = 0;
        for (int v = 0; v < kitchen.voices && count + kitchen.voices - v >= needed; v++) {
            if (trial.strongest(shifted(sound, kitchen.shifts[v])) == w) {
                count++;
            }
        }
        return count;
    }

    // ---- the rule

    private int cost(Deeds deeds, int sound, int what) {
        if (what == ASK) {
            return kitchen.askCost;
        }
        if (what == SILENCE) {
            return kitchen.silenceCost;
        }
        int g = deeds.strongest(sound);
        if (!isWord(g)) {
            return 0;
        }
        return (MILLION - deeds.certainty(g, sound)) * kitchen.wrongCosts[g] / MILLION;
    }

    private int cheapest(Deeds deeds, int sound) {
        int best = DO;
        int least = cost(deeds, sound, DO);
        for (int what = ASK; what <= SILENCE; what++) {
            int its = cost(deeds, sound, what);
            if (its < least) {
                best = what;
                least = its;
            }
        }
        return best;
    }

    private int takeIn(int sound) {
        int what = cheapest(now, sound);
        now.react(now.strongest(sound), what);
        return what;
    }

    // ---- draws

    private int draw(int n) {
        if (n <= 0) {
            return 0;
        }
        drawn = (int) ((drawn * 1103515245L + 12345L) % 2147483648L);
        return drawn / 65536 % n;
    }

    // ---- who speaks

    private boolean couldHaveSpoken(int v) {
        for (int i = 0; i < seen.count; i++) {
            int w = seen.first[i];
            if (isWord(w) && understood(w, v) != seen.second[i]) {
                return false;
            }
        }
        return true;
    }

    /** How many of the speakers at most are GUESSED alike when they say a WORD. */
    private int greatestPart(int w, int speakers) {
        int greatest = 0;
        for (int g = 0; g < kitchen.words; g++) {
            int part = 0;
            for (int v = 0; v < kitchen.voices; v++) {
                if ((speakers >> v & 1) == 1 && understood(w, v) == g) {
                    part++;
                }
            }
            greatest = Math.max(greatest, part);
        }
        return greatest;
    }

    /** THE KITCHEN as it was told. */
    private static final class Kitchen {
        private boolean stands = false;
        private int askCost = 0;
        private int silenceCost = 0;
        private int wakeSound = 0;
        private int words = 0;
        private int voices = 0;
        private final int[] sounds = new int[MOST_WORDS];
        private final int[] usual = new int[MOST_WORDS];
        private final int[] wrongCosts = new int[MOST_WORDS];
        private final int[] shifts = new int[MOST_VOICES];

        private void empty() {
            stands = false;
            askCost = 0;
            silenceCost = 0;
            wakeSound = 0;
            words = 0;
            voices = 0;
        }

        private void setBox(int ask, int silence, int wakes) {
            stands = true;
            askCost = ask;
            silenceCost = silence;
            wakeSound = wakes;
        }

        private void addWord(int sound, int howUsual, int wrongCost) {
            if (words < MOST_WORDS) {
                sounds[words] = sound;
                usual[words] = howUsual;
                wrongCosts[words] = wrongCost;
                words++;
            }
        }

        private void addVoice(int shift) {
            if (voices < MOST_VOICES) {
                shifts[voices] = shift;
                voices++;
            }
        }
    }

    /** THE TEXT, read clause by clause up to its first FAULT. */
    private static final class Reader {
        private final int[] text = new int[MOST_LETTERS];
        private int length = 0;
        /** Where the reading stands; of a FAULT, where it is. */
        private int place = 0;
        private int kind = 0;

        private boolean append(int letter) {
            if (length >= MOST_LETTERS) {
                return false;
            }
            text[length] = letter;
            length++;
            return true;
        }

        private void forget() {
            length = 0;
        }

        /** The number of the FAULT, 0 for none. */
        private int readInto(Kitchen kitchen) {
            kitchen.empty();
            place = 0;
            kind = 0;
            skipBlanks();
            for (int clause = 0; clause < MOST_LETTERS && kind == 0 && place < length; clause++) {
                readClause(kitchen);
                skipBlanks();
            }
            return kind;
        }

        private void readClause(Kitchen kitchen) {
            int letter = letterHere();
            if (letter == 'b' && kitchen.stands
                    || letter == 'w' && kitchen.words >= MOST_WORDS
                    || letter == 'v' && kitchen.voices >= MOST_VOICES) {
                stop(TOO_MANY, place);
            } else if (letter == 'b') {
                readBox(kitchen);
            } else if (letter == 'w' && kitchen.stands) {
                readWord(kitchen);
            } else if (letter == 'v' && kitchen.stands) {
                readVoice(kitchen);
            } else {
                stop(STANDS_WRONG, place);
            }
        }

        private void readBox(Kitchen kitchen) {
            place++;
            int ask = readNumber(NINETY_NINE);
            int silence = readNumber(NINETY_NINE);
            int wakes = readNumber(SOUNDS - 1);
            readEnd();
            kitchen.setBox(ask, silence, wakes);
        }

        private void readWord(Kitchen kitchen) {
            place++;
            int sound = readNumber(SOUNDS - 1);
            int usual = readNumber(NINETY_NINE);
            int wrongCost = readNumber(NINETY_NINE);
            readEnd();
            kitchen.addWord(sound, usual, wrongCost);
        }

        private void readVoice(Kitchen kitchen) {
            place++;
            int shift = readNumber(SOUNDS - 1);
            readEnd();
            kitchen.addVoice(shift);
        }

        private int readNumber(int most) {
            if (kind != 0) {
                return 0;
            }
            skipBlanks();
            int first = place;
            int value = 0;
            while (place < length && isFigure(text[place])) {
                // held small: a row of figures may be as long as the text
                value = Math.min(10 * value + text[place] - '0', MILLION);
                place++;
            }
            if (place == first) {
                stop(STANDS_WRONG, place);
            } else if (place - first > 3 || value > most) {
                stop(BAD_NUMBER, first);
            }
            return value;
        }

        private void readEnd() {
            if (kind != 0) {
                return;
            }
            skipBlanks();
            if (letterHere() == ';') {
                place++;
            } else {
                stop(STANDS_WRONG, place);
            }
        }

        private void skipBlanks() {
            // a FAULT's place stays where it is
            while (kind == 0 && place < length && text[place] == ' ') {
                place++;
            }
        }

        /** NONE at the text's end. */
        private int letterHere() {
            return place < length ? text[place] : NONE;
        }

        private static boolean isFigure(int letter) {
            return letter >= '0' && letter <= '9';
        }

        private void stop(int fault, int where) {
            kind = fault;
            place = where;
        }
    }

    /** All that changes by what is HEARD and learnt: section 2 of the document. */
    private static final class Deeds {
        private int words = 0;
        private final int[] sounds = new int[MOST_WORDS];
        private final int[] usual = new int[MOST_WORDS];
        private final int[] onList = new int[MOST_WORDS];
        private int cross = 0;
        private int heard = 0;
        /** The GUESS that can be taken back or let be. */
        private int kept = NONE;

        private void begin(Kitchen kitchen) {
            words = kitchen.words;
            for (int w = 0; w < words; w++) {
                sounds[w] = kitchen.sounds[w];
                usual[w] = kitchen.usual[w];
                onList[w] = 0;
            }
            cross = 0;
            heard = 0;
            kept = NONE;
        }

        private void copy(Deeds from) {
            words = from.words;
            for (int w = 0; w < words; w++) {
                sounds[w] = from.sounds[w];
                usual[w] = from.usual[w];
                onList[w] = from.onList[w];
            }
            cross = from.cross;
            heard = from.heard;
            kept = from.kept;
        }

        private int allOnList() {
            int all = 0;
            for (int w = 0; w < words; w++) {
                all += onList[w];
            }
            return all;
        }

        private int weight(int w, int sound) {
            return (usual[w] + 1) * (FARTHEST + 1 - apart(sounds[w], sound));
        }

        private int strongest(int sound) {
            int best = NONE;
            int most = 0;
            for (int w = 0; w < words; w++) {
                int its = weight(w, sound);
                if (its > most) {
                    best = w;
                    most = its;
                }
            }
            return best;
        }

        /** SURE of a WORD, that there is, for a SOUND. */
        private int certainty(int w, int sound) {
            int all = 0;
            for (int other = 0; other < words; other++) {
                all += weight(other, sound);
            }
            return all <= 0 ? 0 : (int) ((long) weight(w, sound) * MILLION / all);
        }

        /** How far a SOUND is from the WORD next to it. */
        private int nearest(int sound) {
            int least = FARTHEST;
            for (int w = 0; w < words; w++) {
                least = Math.min(least, apart(sounds[w], sound));
            }
            return least;
        }

        private void react(int g, int what) {
            if (what == DO) {
                putOnList(g);
            } else if (what == ASK) {
                cross++;
            }
            heard++;
            kept = g;
        }

        /** How a word that was said by draws is learnt by. */
        private void learn(int w, boolean minded) {
            if (minded && kept != w) {
                correctTo(w);
            } else {
                confirm();
            }
        }

        private void confirm() {
            if (isThere(kept)) {
                usual[kept] = Math.min(usual[kept] + 1, NINETY_NINE);
            }
            kept = NONE;
        }

        private void correctTo(int w) {
            if (isThere(kept)) {
                onList[kept] = Math.max(onList[kept] - 1, 0);
                usual[kept] = Math.max(usual[kept] - 1, 0);
            }
            if (isThere(w)) {
                usual[w] = Math.min(usual[w] + 2, NINETY_NINE);
                putOnList(w);
            }
            kept = NONE;
        }

        private void putOnList(int w) {
            if (isThere(w)) {
                onList[w] = Math.min(onList[w] + 1, NINETY_NINE);
            }
        }

        private boolean isThere(int w) {
            return w >= 0 && w < words;
        }
    }

    /** What was so ahead of the latest deeds; of too many the oldest are overwritten. */
    private static final class Past {
        private final Deeds[] ring = new Deeds[MOST_UNDONE];
        private int next = 0;
        private int count = 0;

        private Past() {
            for (int i = 0; i < MOST_UNDONE; i++) {
                ring[i] = new Deeds();
            }
        }

        private void clear() {
            count = 0;
        }

        private void push(Deeds deeds) {
            ring[next].copy(deeds);
            next = (next + 1) % MOST_UNDONE;
            count = Math.min(count + 1, MOST_UNDONE);
        }

        private boolean pop(Deeds into) {
            if (count == 0) {
                return false;
            }
            next = (next + MOST_UNDONE - 1) % MOST_UNDONE;
            count--;
            into.copy(ring[next]);
            return true;
        }
    }

    /** What is so at one time, to go back to. */
    private static final class Image {
        private boolean kept = false;
        private final Deeds deeds = new Deeds();
        private int drawn = 0;
    }

    /** A row of pairs of numbers, up to a length. */
    private static final class Pairs {
        private final int[] first;
        private final int[] second;
        private int count = 0;

        private Pairs(int most) {
            int length = Math.max(most, 0);
            first = new int[length];
            second = new int[length];
        }

        private boolean append(int a, int b) {
            if (count >= first.length) {
                return false;
            }
            first[count] = a;
            second[count] = b;
            count++;
            return true;
        }

        private void clear() {
            count = 0;
        }
    }
}
