/** Stage combat and stunt clearances; ../shared/DOC.md tells what each public method promises. */
public final class StuntDesk {
    public static final int NONE = -1;

    private static final int PEOPLE = 8;
    private static final int KINDS = 6;
    private static final int MAX_RISK = 5;
    private static final int MIN_SIZE = 150;
    private static final int MAX_SIZE = 200;
    private static final int FIRST_SIZE = 170;
    private static final int ALIKE_GAP = 5;
    private static final int MAX_PART = 32;

    private static final int LAST_DAY = 999;
    private static final int MAX_PASS = 99;
    private static final int MAX_INJURY_DAYS = 60;
    private static final int MAX_INSURED_DAYS = 60;
    private static final int MAX_STEP = 5;
    private static final int FIRST_PURSE = 2000;
    private static final int DAYS_LOOKED_AHEAD = 60;
    private static final int REHEARSALS_WITHOUT_HARM = 3;

    private static final int KEPT_REHEARSALS = 40;
    private static final int KEPT_INJURIES = 12;
    private static final int KEPT_STATES = 6;
    private static final int MAX_SCENES = 10;
    private static final int MAX_TEXT = 60;
    private static final int MIN_CODE = 33;
    private static final int MAX_CODE = 126;

    private static final int LAST_KIND_NUMBER = 2;
    private static final int LAST_PERSON_NUMBER = 6;
    private static final int LAST_SCENE_NUMBER = 5;
    private static final int LAST_COUNT = 10;

    private static final int FALL = 1;
    private static final int FIRE = 2;
    private static final int WIRE = 3;
    private static final int WATER = 4;

    // One entry for each kind: fight, fall, fire, wire, water, driving.
    private static final int[] COUNTING_DAYS = {20, 15, 10, 12, 30, 25};
    private static final int[] BARRING_PARTS = {3, 28, 63, 48, 32, 35};
    private static final int[] PARTS_HURT_WHEN_TIRED = {1, 4, 16, 16, 4, 1};

    private static final int CLEARED = 0;
    private static final int SCENE_IS_SHOT = 1;
    private static final int NOT_ALIKE = 2;
    private static final int NOT_INSURED = 3;
    private static final int BARRED = 4;
    private static final int DAY_OFF = 5;
    private static final int NOT_REHEARSED = 6;

    private static final long DIGEST_START = 3527L;
    private static final int DIGEST_FACTOR = 31;

    private final State now = new State();
    private final SavedStates saved = new SavedStates();
    private final PlanText text = new PlanText();

    public StuntDesk() {
    }

    // ---- people, days

    public int size(int person, int size) throws IndexOutOfBoundsException, IllegalArgumentException {
        requirePerson(person);
        requireArgument(isBetween(size, MIN_SIZE, MAX_SIZE));
        saved.keep(now);
        return now.changeSize(person, size);
    }

    public int pass(int days) throws IllegalArgumentException, IllegalStateException {
        requireArgument(isBetween(days, 1, MAX_PASS));
        requireState(now.canPass(days));
        saved.keep(now);
        now.letPass(days);
        return now.day;
    }

    public int rehearse(int person, int kind, int risk)
            throws IndexOutOfBoundsException, IllegalArgumentException, IllegalStateException {
        requirePerson(person);
        requireKind(kind);
        requireArgument(isBetween(risk, 1, MAX_RISK));
        requireState(now.canRehearse(person, kind));
        saved.keep(now);
        return now.letRehearse(person, kind, risk) ? 1 : 0;
    }

    public int hurt(int person, int part, int days)
            throws IndexOutOfBoundsException, IllegalArgumentException {
        requirePerson(person);
        requireArgument(isPart(part) && isBetween(days, 1, MAX_INJURY_DAYS));
        saved.keep(now);
        now.noteInjury(person, part, days);
        return now.scenesBarredFor(person);
    }

    public int insure(int step, int days) throws IllegalArgumentException, IllegalStateException {
        requireArgument(isInsurance(step, days));
        requireState(now.costOf(step, days) <= now.purse);
        saved.keep(now);
        now.buyInsurance(step, days);
        return now.purse;
    }

    // ---- scenes

    public int scene(int kind, int risk, int person)
            throws IndexOutOfBoundsException, IllegalArgumentException, IllegalStateException {
        requireKind(kind);
        requirePerson(person);
        requireArgument(isBetween(risk, 1, MAX_RISK));
        requireState(now.scenes.told < MAX_SCENES);
        saved.keep(now);
        return now.scenes.tell(kind, risk, person);
    }

    public int shoot(int scene, int person) throws IndexOutOfBoundsException, IllegalStateException {
        requireScene(scene);
        requirePerson(person);
        requireState(now.canShoot(scene, person));
        saved.keep(now);
        now.letShoot(scene, person);
        return now.scenes.isByDouble(scene) ? 1 : 0;
    }

    // ---- texts

    public int append(int code) throws IllegalArgumentException, IllegalStateException {
        requireArgument(isBetween(code, MIN_CODE, MAX_CODE));
        requireState(text.length < MAX_TEXT);
        text.add(code);
        return text.length;
    }

    public int clearBuffer() {
        int length = text.length;
        text.makeEmpty();
        return length;
    }

    public int firstError() {
        return text.errorPlace();
    }

    public int play() throws IllegalArgumentException {
        requireArgument(text.isComplete());
        saved.keep(now);
        int done = 0;
        boolean possible = true;
        int length = text.length;
        for (int i = 0; i < length && possible; i++) {
            if (text.isPartStart(i)) {
                possible = playPart(i);
                done += possible ? 1 : 0;
            }
        }
        text.makeEmpty();
        return done;
    }

    public int undo() throws IllegalStateException {
        requireState(saved.kept > 0);
        saved.restoreLatest(now);
        return saved.kept;
    }

    // ---- looks; nothing is changed

    public int person(int person, int what) throws IndexOutOfBoundsException, IllegalArgumentException {
        requirePerson(person);
        requireArgument(isBetween(what, 0, LAST_PERSON_NUMBER));
        return now.personNumber(person, what);
    }

    public int rehearsed(int person, int kind, int risk)
            throws IndexOutOfBoundsException, IllegalArgumentException {
        requirePerson(person);
        requireKind(kind);
        requireArgument(isBetween(risk, 1, MAX_RISK));
        return now.rehearsals.countingOn(now.day, person, kind, risk);
    }

    public int kind(int kind, int risk, int what)
            throws IndexOutOfBoundsException, IllegalArgumentException {
        requireKind(kind);
        requireArgument(isBetween(risk, 1, MAX_RISK) && isBetween(what, 0, LAST_KIND_NUMBER));
        switch (what) {
            case 0: return rehearsalsNeeded(kind, risk);
            case 1: return at(COUNTING_DAYS, kind);
            default: return at(BARRING_PARTS, kind);
        }
    }

    public int sceneOf(int scene, int what) throws IndexOutOfBoundsException, IllegalArgumentException {
        requireScene(scene);
        requireArgument(isBetween(what, 0, LAST_SCENE_NUMBER));
        return now.sceneNumber(scene, what);
    }

    public int count(int what) throws IllegalArgumentException {
        requireArgument(isBetween(what, 0, LAST_COUNT));
        return countNumber(what);
    }

    public int refusal(int scene, int person) throws IndexOutOfBoundsException {
        requireScene(scene);
        requirePerson(person);
        return now.reasonOn(now.day, scene, person);
    }

    // ---- what would be; nothing is changed

    public int soonest(int scene, int person) throws IndexOutOfBoundsException {
        requireScene(scene);
        requirePerson(person);
        return now.firstClearedDay(scene, person);
    }

    public int lacking(int scene, int person) throws IndexOutOfBoundsException {
        requireScene(scene);
        requirePerson(person);
        return now.rehearsalsLacking(scene, person);
    }

    public int best(int scene) throws IndexOutOfBoundsException {
        requireScene(scene);
        return now.bestFor(scene);
    }

    public int cost(int step, int days) throws IllegalArgumentException {
        requireArgument(isInsurance(step, days));
        return now.costOf(step, days);
    }

    public int ifHurt(int person, int part) throws IndexOutOfBoundsException, IllegalArgumentException {
        requirePerson(person);
        requireArgument(isPart(part));
        return now.scenesStoppedBy(person, part);
    }

    public double shotShare() {
        return now.scenes.shareShot();
    }

    public long digest() {
        long hash = DIGEST_START;
        for (int what = 0; what <= LAST_COUNT; what++) {
            hash = mixed(hash, countNumber(what));
        }
        for (int person = 0; person < PEOPLE; person++) {
            hash = mixedWithPerson(hash, person);
        }
        for (int scene = 0; scene < now.scenes.told; scene++) {
            hash = mixedWithScene(hash, scene);
        }
        hash = mixed(hash, now.costOf(3, 10));
        hash = mixed(hash, bitsOfShare(now.scenes.shareShot()));
        hash = mixed(hash, text.length);
        for (int i = 0; i < text.length; i++) {
            hash = mixed(hash, text.codeAt(i));
        }
        return hash;
    }

    private long mixedWithPerson(long start, int person) {
        long hash = start;
        for (int what = 0; what <= LAST_PERSON_NUMBER; what++) {
            hash = mixed(hash, now.personNumber(person, what));
        }
        for (int kind = 0; kind < KINDS; kind++) {
            hash = mixed(hash, now.rehearsals.countingOn(now.day, person, kind, 2));
        }
        return mixed(hash, now.scenesStoppedBy(person, 16));
    }

    private long mixedWithScene(long start, int scene) {
        long hash = start;
        for (int what = 0; what <= LAST_SCENE_NUMBER; what++) {
            hash = mixed(hash, now.sceneNumber(scene, what));
        }
        hash = mixed(hash, now.bestFor(scene));
        for (int person = 0; person < PEOPLE; person++) {
            hash = mixed(hash, now.reasonOn(now.day, scene, person));
            hash = mixed(hash, now.rehearsalsLacking(scene, person));
            hash = mixed(hash, now.firstClearedDay(scene, person));
        }
        return hash;
    }

    private static long mixed(long hash, long value) {
        return DIGEST_FACTOR * hash + value;
    }

    /** LANGUAGE.md leaves out Double.doubleToLongBits; for a share from 0.0 to 1.0 these steps are exact. */
    private static long bitsOfShare(double share) {
        if (share <= 0.0) {
            return 0L;
        }
        double fraction = share;
        long exponent = 1023L;
        for (int i = 0; i < 64 && fraction < 1.0; i++) {
            fraction = fraction * 2.0;
            exponent--;
        }
        return (exponent << 52) + (long) ((fraction - 1.0) * 4503599627370496.0);
    }

    private int countNumber(int what) {
        switch (what) {
            case 0: return now.day;
            case 1: return now.purse;
            case 2: return now.stepOn(now.day);
            case 3: return now.lastInsuredDay();
            case 4: return now.scenes.told;
            case 5: return now.scenes.shotOnes();
            case 6: return now.scenes.shotByDoubles();
            case 7: return now.injuriesSoFar;
            case 8: return now.rehearsalsSoFar;
            case 9: return now.scenesSomebodyCouldShoot();
            default: return saved.kept;
        }
    }

    private boolean playPart(int start) {
        switch (text.codeAt(start)) {
            case '+': return playDays(text.daysAt(start + 1));
            case '!': return playShot(text.digitAt(start + 1), text.digitAt(start + 2));
            default: return playRehearsal(text.digitAt(start), text.digitAt(start + 2), text.digitAt(start + 3));
        }
    }

    private boolean playDays(int days) {
        if (!now.canPass(days)) {
            return false;
        }
        now.letPass(days);
        return true;
    }

    private boolean playShot(int scene, int person) {
        if (!now.scenes.has(scene) || !now.canShoot(scene, person)) {
            return false;
        }
        now.letShoot(scene, person);
        return true;
    }

    private boolean playRehearsal(int person, int kind, int risk) {
        if (!now.canRehearse(person, kind)) {
            return false;
        }
        now.letRehearse(person, kind, risk);
        return true;
    }

    private static void requirePerson(int person) {
        if (!isBetween(person, 0, PEOPLE - 1)) {
            throw new IndexOutOfBoundsException("no such person");
        }
    }

    private static void requireKind(int kind) {
        if (!isBetween(kind, 0, KINDS - 1)) {
            throw new IndexOutOfBoundsException("no such kind");
        }
    }

    private void requireScene(int scene) {
        if (!now.scenes.has(scene)) {
            throw new IndexOutOfBoundsException("no such scene");
        }
    }

    private static void requireArgument(boolean right) {
        if (!right) {
            throw new IllegalArgumentException("an argument is not one of those that are allowed");
        }
    }

    private static void requireState(boolean right) {
        if (!right) {
            throw new IllegalStateException("this is not possible now");
        }
    }

    private static boolean isBetween(int number, int lowest, int highest) {
        return number >= lowest && number <= highest;
    }

    private static boolean isPart(int part) {
        return isBetween(part, 1, MAX_PART) && (part & (part - 1)) == 0;
    }

    private static boolean isInsurance(int step, int days) {
        return isBetween(step, 1, MAX_STEP) && isBetween(days, 1, MAX_INSURED_DAYS);
    }

    private static int rehearsalsNeeded(int kind, int risk) {
        switch (kind) {
            case FALL: return risk + 1;
            case FIRE: return 2 * risk;
            case WIRE: return risk + 2;
            case WATER: return risk / 2 + 1;
            default: return risk;
        }
    }

    private static boolean barsKind(int parts, int kind) {
        return (parts & at(BARRING_PARTS, kind)) != 0;
    }

    // Every row is read and written through these, so that no index goes untested.

    private static int at(int[] row, int i) {
        return row != null && i >= 0 && i < row.length ? row[i] : 0;
    }

    private static void put(int[] row, int i, int value) {
        if (row != null && i >= 0 && i < row.length) {
            row[i] = value;
        }
    }

    private static void copyRow(int[] from, int[] to) {
        if (from == null || to == null) {
            return;
        }
        for (int i = 0; i < from.length && i < to.length; i++) {
            to[i] = from[i];
        }
    }

    private static void dropFirst(int[] row) {
        if (row == null) {
            return;
        }
        for (int i = 0; i + 1 < row.length; i++) {
            row[i] = row[i + 1];
        }
    }

    /** All that an undo restores. */
    private static final class State {
        int day = 0;
        int purse = FIRST_PURSE;
        // The day of buying needs no place here: nobody asks about a day ahead of today.
        int insuredStep = 0;
        int insuredTo = NONE;
        int injuriesSoFar = 0;
        int rehearsalsSoFar = 0;
        final int[] sizes = new int[PEOPLE];
        final int[] rehearsalsToday = new int[PEOPLE];
        final Rehearsals rehearsals = new Rehearsals();
        final Injuries injuries = new Injuries();
        final Scenes scenes = new Scenes();

        State() {
            for (int person = 0; person < sizes.length; person++) {
                sizes[person] = FIRST_SIZE;
            }
        }

        void copyFrom(State other) {
            if (other == null) {
                return;
            }
            day = other.day;
            purse = other.purse;
            insuredStep = other.insuredStep;
            insuredTo = other.insuredTo;
            injuriesSoFar = other.injuriesSoFar;
            rehearsalsSoFar = other.rehearsalsSoFar;
            copyRow(other.sizes, sizes);
            copyRow(other.rehearsalsToday, rehearsalsToday);
            rehearsals.copyFrom(other.rehearsals);
            injuries.copyFrom(other.injuries);
            scenes.copyFrom(other.scenes);
        }

        int changeSize(int person, int newSize) {
            int previous = at(sizes, person);
            put(sizes, person, newSize);
            return previous;
        }

        boolean canPass(int days) {
            return day + days <= LAST_DAY;
        }

        void letPass(int days) {
            day += days;
            for (int person = 0; person < PEOPLE; person++) {
                put(rehearsalsToday, person, 0);
            }
        }

        boolean canRehearse(int person, int kind) {
            return !barsKind(injuries.partsOn(day, person), kind);
        }

        /** Answers whether the rehearsal counts. */
        boolean letRehearse(int person, int kind, int risk) {
            rehearsalsSoFar++;
            int times = at(rehearsalsToday, person) + 1;
            put(rehearsalsToday, person, times);
            if (times > REHEARSALS_WITHOUT_HARM) {
                noteInjury(person, at(PARTS_HURT_WHEN_TIRED, kind), 2 * risk);
                return false;
            }
            rehearsals.keep(person, kind, risk, day);
            return true;
        }

        void noteInjury(int person, int part, int days) {
            injuriesSoFar++;
            injuries.keep(person, part, day + days - 1);
        }

        int scenesBarredFor(int person) {
            int parts = injuries.partsOn(day, person);
            int barred = 0;
            for (int scene = 0; scene < scenes.told; scene++) {
                if (!scenes.isShot(scene) && barsKind(parts, scenes.kindOf(scene))) {
                    barred++;
                }
            }
            return barred;
        }

        int costOf(int step, int days) {
            int plain = days * step * step;
            return plain + plain * injuriesSoFar / 10;
        }

        void buyInsurance(int step, int days) {
            purse -= costOf(step, days);
            insuredStep = step;
            insuredTo = day + days - 1;
        }

        int stepOn(int someDay) {
            return someDay <= insuredTo ? insuredStep : 0;
        }

        int lastInsuredDay() {
            return day <= insuredTo ? insuredTo : NONE;
        }

        boolean canShoot(int scene, int person) {
            return reasonOn(day, scene, person) == CLEARED;
        }

        void letShoot(int scene, int person) {
            scenes.noteShot(scene, person, day);
        }

        int reasonOn(int someDay, int scene, int person) {
            int kind = scenes.kindOf(scene);
            int risk = scenes.riskOf(scene);
            if (scenes.isShot(scene)) {
                return SCENE_IS_SHOT;
            }
            if (!lookAlike(person, scenes.seenIn(scene))) {
                return NOT_ALIKE;
            }
            if (stepOn(someDay) < risk) {
                return NOT_INSURED;
            }
            if (barsKind(injuries.partsOn(someDay, person), kind)) {
                return BARRED;
            }
            int shotOn = scenes.latestShotBy(person);
            if (shotOn != NONE && someDay <= shotOn + 1) {
                return DAY_OFF;
            }
            int counting = rehearsals.countingOn(someDay, person, kind, risk);
            return counting < rehearsalsNeeded(kind, risk) ? NOT_REHEARSED : CLEARED;
        }

        /** Everybody looks like himself, so this holds for the one who is seen too. */
        boolean lookAlike(int one, int other) {
            int gap = at(sizes, one) - at(sizes, other);
            return gap >= -ALIKE_GAP && gap <= ALIKE_GAP;
        }

        int firstClearedDay(int scene, int person) {
            for (int ahead = 0; ahead <= DAYS_LOOKED_AHEAD; ahead++) {
                int reason = reasonOn(day + ahead, scene, person);
                if (reason == CLEARED) {
                    return day + ahead;
                }
                // Injuries and days off go by; every other reason stays, as insurance and rehearsals only run out.
                if (reason != BARRED && reason != DAY_OFF) {
                    return NONE;
                }
            }
            return NONE;
        }

        int rehearsalsLacking(int scene, int person) {
            int kind = scenes.kindOf(scene);
            int risk = scenes.riskOf(scene);
            int lacking = rehearsalsNeeded(kind, risk) - rehearsals.countingOn(day, person, kind, risk);
            return lacking > 0 ? lacking : 0;
        }

        int bestFor(int scene) {
            if (scenes.isShot(scene)) {
                return NONE;
            }
            int found = NONE;
            for (int person = 0; person < PEOPLE; person++) {
                if (comesIntoQuestion(scene, person) && (found == NONE || isBetter(scene, person, found))) {
                    found = person;
                }
            }
            return found;
        }

        boolean comesIntoQuestion(int scene, int person) {
            return lookAlike(person, scenes.seenIn(scene)) && canRehearse(person, scenes.kindOf(scene));
        }

        boolean isBetter(int scene, int person, int than) {
            int more = rehearsalsLacking(scene, person) - rehearsalsLacking(scene, than);
            if (more != 0) {
                return more < 0;
            }
            int seen = scenes.seenIn(scene);
            if (person == seen || than == seen) {
                return person == seen;
            }
            return sizeGap(person, seen) < sizeGap(than, seen);
        }

        int sizeGap(int one, int other) {
            int gap = at(sizes, one) - at(sizes, other);
            return gap < 0 ? -gap : gap;
        }

        int clearedToday(int scene) {
            int mask = 0;
            for (int person = 0; person < PEOPLE; person++) {
                if (reasonOn(day, scene, person) == CLEARED) {
                    mask |= 1 << person;
                }
            }
            return mask;
        }

        int scenesSomebodyCouldShoot() {
            int possible = 0;
            for (int scene = 0; scene < scenes.told; scene++) {
                if (clearedToday(scene) != 0) {
                    possible++;
                }
            }
            return possible;
        }

        int scenesStoppedBy(int person, int part) {
            int stopped = 0;
            for (int scene = 0; scene < scenes.told; scene++) {
                if (barsKind(part, scenes.kindOf(scene)) && clearedToday(scene) == 1 << person) {
                    stopped++;
                }
            }
            return stopped;
        }

        int personNumber(int person, int what) {
            switch (what) {
                case 0: return at(sizes, person);
                case 1: return injuries.partsOn(day, person);
                case 2: return injuries.lastDayFor(day, person);
                case 3: return at(rehearsalsToday, person);
                case 4: return scenes.latestShotBy(person);
                case 5: return scenes.shotBy(person);
                default: return kindsBarredToday(person);
            }
        }

        int kindsBarredToday(int person) {
            int parts = injuries.partsOn(day, person);
            int mask = 0;
            for (int kind = 0; kind < KINDS; kind++) {
                if (barsKind(parts, kind)) {
                    mask |= 1 << kind;
                }
            }
            return mask;
        }

        int sceneNumber(int scene, int what) {
            switch (what) {
                case 0: return scenes.kindOf(scene);
                case 1: return scenes.riskOf(scene);
                case 2: return scenes.seenIn(scene);
                case 3: return scenes.dayOfShot(scene);
                case 4: return scenes.doerOf(scene);
                default: return clearedToday(scene);
            }
        }
    }

    /** The rehearsals that are kept, the oldest one first. */
    private static final class Rehearsals {
        int kept = 0;
        final int[] people = new int[KEPT_REHEARSALS];
        final int[] kinds = new int[KEPT_REHEARSALS];
        final int[] risks = new int[KEPT_REHEARSALS];
        final int[] days = new int[KEPT_REHEARSALS];

        void keep(int person, int kind, int risk, int day) {
            if (kept >= KEPT_REHEARSALS) {
                dropFirst(people);
                dropFirst(kinds);
                dropFirst(risks);
                dropFirst(days);
                kept--;
            }
            put(people, kept, person);
            put(kinds, kept, kind);
            put(risks, kept, risk);
            put(days, kept, day);
            kept++;
        }

        /** How many count for something of that risk, which asks for a risk of at least one less. */
        int countingOn(int someDay, int person, int kind, int risk) {
            int counting = 0;
            for (int i = 0; i < kept; i++) {
                if (at(people, i) == person && at(kinds, i) == kind && at(risks, i) >= risk - 1
                        && someDay < at(days, i) + at(COUNTING_DAYS, kind)) {
                    counting++;
                }
            }
            return counting;
        }

        void copyFrom(Rehearsals other) {
            if (other == null) {
                return;
            }
            kept = other.kept;
            copyRow(other.people, people);
            copyRow(other.kinds, kinds);
            copyRow(other.risks, risks);
            copyRow(other.days, days);
        }
    }

    /** The injuries that are kept, the oldest one first. */
    private static final class Injuries {
        int kept = 0;
        final int[] people = new int[KEPT_INJURIES];
        final int[] parts = new int[KEPT_INJURIES];
        final int[] lastDays = new int[KEPT_INJURIES];

        void keep(int person, int part, int lastDay) {
            if (kept >= KEPT_INJURIES) {
                dropFirst(people);
                dropFirst(parts);
                dropFirst(lastDays);
                kept--;
            }
            put(people, kept, person);
            put(parts, kept, part);
            put(lastDays, kept, lastDay);
            kept++;
        }

        int partsOn(int someDay, int person) {
            int mask = 0;
            for (int i = 0; i < kept; i++) {
                if (at(people, i) == person && someDay <= at(lastDays, i)) {
                    mask |= at(parts, i);
                }
            }
            return mask;
        }

        int lastDayFor(int someDay, int person) {
            int last = NONE;
            for (int i = 0; i < kept; i++) {
                int lastDay = at(lastDays, i);
                if (at(people, i) == person && someDay <= lastDay && lastDay > last) {
                    last = lastDay;
                }
            }
            return last;
        }

        void copyFrom(Injuries other) {
            if (other == null) {
                return;
            }
            kept = other.kept;
            copyRow(other.people, people);
            copyRow(other.parts, parts);
            copyRow(other.lastDays, lastDays);
        }
    }

    private static final class Scenes {
        int told = 0;
        final int[] kinds = new int[MAX_SCENES];
        final int[] risks = new int[MAX_SCENES];
        final int[] seen = new int[MAX_SCENES];
        final int[] shotDays = new int[MAX_SCENES];
        final int[] doers = new int[MAX_SCENES];

        boolean has(int scene) {
            return scene >= 0 && scene < told;
        }

        int tell(int kind, int risk, int person) {
            int number = told;
            put(kinds, number, kind);
            put(risks, number, risk);
            put(seen, number, person);
            put(shotDays, number, NONE);
            put(doers, number, NONE);
            told++;
            return number;
        }

        void noteShot(int scene, int person, int day) {
            put(shotDays, scene, day);
            put(doers, scene, person);
        }

        int kindOf(int scene) {
            return at(kinds, scene);
        }

        int riskOf(int scene) {
            return at(risks, scene);
        }

        int seenIn(int scene) {
            return at(seen, scene);
        }

        int dayOfShot(int scene) {
            return at(shotDays, scene);
        }

        int doerOf(int scene) {
            return at(doers, scene);
        }

        boolean isShot(int scene) {
            return at(shotDays, scene) != NONE;
        }

        boolean isByDouble(int scene) {
            return isShot(scene) && doerOf(scene) != seenIn(scene);
        }

        int shotOnes() {
            int shot = 0;
            for (int scene = 0; scene < told; scene++) {
                if (isShot(scene)) {
                    shot++;
                }
            }
            return shot;
        }

        int shotByDoubles() {
            int shot = 0;
            for (int scene = 0; scene < told; scene++) {
                if (isByDouble(scene)) {
                    shot++;
                }
            }
            return shot;
        }

        int shotBy(int person) {
            int shot = 0;
            for (int scene = 0; scene < told; scene++) {
                if (isShot(scene) && doerOf(scene) == person) {
                    shot++;
                }
            }
            return shot;
        }

        int latestShotBy(int person) {
            int latest = NONE;
            for (int scene = 0; scene < told; scene++) {
                if (at(doers, scene) == person && at(shotDays, scene) > latest) {
                    latest = at(shotDays, scene);
                }
            }
            return latest;
        }

        double shareShot() {
            return told == 0 ? 1.0 : (double) shotOnes() / told;
        }

        void copyFrom(Scenes other) {
            if (other == null) {
                return;
            }
            told = other.told;
            copyRow(other.kinds, kinds);
            copyRow(other.risks, risks);
            copyRow(other.seen, seen);
            copyRow(other.shotDays, shotDays);
            copyRow(other.doers, doers);
        }
    }

    /** The states for undo, the oldest one first; made once, as what a run makes is counted. */
    private static final class SavedStates {
        int kept = 0;
        final State[] states = new State[KEPT_STATES];

        SavedStates() {
            for (int i = 0; i < states.length; i++) {
                states[i] = new State();
            }
        }

        void keep(State state) {
            if (kept >= KEPT_STATES) {
                dropOldest();
            }
            State place = stateAt(kept);
            if (place != null) {
                place.copyFrom(state);
                kept++;
            }
        }

        /** The dropped state goes to the end, where its rows are used again. */
        void dropOldest() {
            State oldest = stateAt(0);
            for (int i = 0; i + 1 < states.length; i++) {
                states[i] = states[i + 1];
            }
            if (states.length > 0) {
                states[states.length - 1] = oldest;
            }
            kept--;
        }

        void restoreLatest(State into) {
            State latest = stateAt(kept - 1);
            if (latest != null && into != null) {
                into.copyFrom(latest);
                kept--;
            }
        }

        State stateAt(int i) {
            return i >= 0 && i < states.length ? states[i] : null;
        }
    }

    /** The buffer, and the places in a plan between two of its characters. */
    private static final class PlanText {
        static final int WRONG = -1;
        static final int PART_START = 0;
        static final int BEFORE_R = 1;
        static final int BEFORE_KIND = 2;
        static final int BEFORE_RISK = 3;
        static final int BEFORE_DAYS = 4;
        static final int AFTER_ONE_DIGIT = 5;
        static final int BEFORE_SCENE = 6;
        static final int BEFORE_DOER = 7;
        static final int PART_END = 8;

        int length = 0;
        final int[] codes = new int[MAX_TEXT];

        void add(int code) {
            put(codes, length, code);
            length++;
        }

        void makeEmpty() {
            length = 0;
        }

        int codeAt(int i) {
            return at(codes, i);
        }

        int digitAt(int i) {
            return codeAt(i) - '0';
        }

        boolean hasDigitAt(int i) {
            return i < length && isBetween(codeAt(i), '0', '9');
        }

        int daysAt(int i) {
            return hasDigitAt(i + 1) ? 10 * digitAt(i) + digitAt(i + 1) : digitAt(i);
        }

        boolean isPartStart(int i) {
            return i == 0 || codeAt(i - 1) == ';';
        }

        int errorPlace() {
            int place = PART_START;
            for (int i = 0; i < length; i++) {
                place = placeAfter(place, codeAt(i));
                if (place == WRONG) {
                    return i;
                }
            }
            return length;
        }

        boolean isComplete() {
            int place = PART_START;
            for (int i = 0; i < length; i++) {
                place = placeAfter(place, codeAt(i));
            }
            return place == PART_END || place == AFTER_ONE_DIGIT;
        }

        static int placeAfter(int place, int code) {
            switch (place) {
                case PART_START: return placeAfterFirst(code);
                case BEFORE_R: return code == 'r' ? BEFORE_KIND : WRONG;
                case BEFORE_KIND: return isBetween(code, '0', '5') ? BEFORE_RISK : WRONG;
                case BEFORE_RISK: return isBetween(code, '1', '5') ? PART_END : WRONG;
                case BEFORE_DAYS: return isBetween(code, '1', '9') ? AFTER_ONE_DIGIT : WRONG;
                case AFTER_ONE_DIGIT: return isBetween(code, '0', '9') ? PART_END : placeAfterPart(code);
                case BEFORE_SCENE: return isBetween(code, '0', '9') ? BEFORE_DOER : WRONG;
                case BEFORE_DOER: return isBetween(code, '0', '7') ? PART_END : WRONG;
                case PART_END: return placeAfterPart(code);
                default: return WRONG;
            }
        }

        static int placeAfterFirst(int code) {
            switch (code) {
                case '+': return BEFORE_DAYS;
                case '!': return BEFORE_SCENE;
                default: return isBetween(code, '0', '7') ? BEFORE_R : WRONG;
            }
        }

        static int placeAfterPart(int code) {
            return code == ';' ? PART_START : WRONG;
        }
    }
}
