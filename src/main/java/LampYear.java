import java.util.Arrays;

/**
 * The headquarters of a year in which a land learns to read. The words in capitals (PLACE, NOTE,
 * TAUGHT ..) are those of the document; each part of it has a class of its own in here, and the
 * methods of the face ask for the STATUS first and change something only when that is 0.
 */
public final class LampYear {
    public static final int NONE = -1;

    private static final int WEEKS = 60;
    private static final int LONGEST_WAY = 9;
    private static final int SHIRES = 4;
    private static final int TONGUES = 5;
    private static final int LETTERS = 26;
    private static final int LESSONS = 15;
    private static final int MOST_PLACES = 16;
    private static final int MOST_WAYS = 30;
    private static final int MOST_LEARNERS = 40;
    private static final int MOST_TEACHERS = 20;
    private static final int MOST_LAMPS = 12;
    private static final int MOST_NOTES = 160;
    private static final int MOST_PROOFS = 60;
    private static final int MOST_TEXTS = 5;
    private static final int MOST_BYTES = 600;
    private static final int MOST_RULES = 20;
    private static final int MOST_HOURS = 60;
    private static final int MOST_SENT = 7;
    private static final int MOST_COUNTED = 60;

    private static final int POSTED = 0;
    private static final int COMES = 1;
    private static final int AWAY = 2;
    private static final int ILL = 3;

    private static final int CANT_BE = 1;
    private static final int MISSING = 2;
    private static final int TOO_SHORT = 3;
    private static final int TOO_MANY = 4;
    private static final int GONE = 5;
    private static final int NO_SUCH = 6;
    private static final int ALREADY = 7;
    private static final int UNLIKE = 8;
    private static final int FAULTY = 9;

    private final Trays trays;
    private final Land land;
    private final Notes notes;
    private final Book book;
    private final Reader reader;
    private final Lessons lessons;
    private final Year year;
    private final Proofs proofs;
    private final Sending sending;
    private final Draws draws;
    private int status;

    public LampYear() {
        trays = new Trays();
        land = new Land();
        notes = new Notes();
        book = new Book();
        reader = new Reader(book);
        lessons = new Lessons();
        year = new Year(land, notes, book, lessons);
        proofs = new Proofs();
        sending = new Sending();
        draws = new Draws();
        status = 0;
    }

    public int status() {
        return status;
    }

    // ---- TRAYS

    public boolean tray(int tray, int sort, int many) {
        if (!Trays.isTray(tray) || !within(sort, 0, Trays.SORTS - 1) || !within(many, 0, Trays.LONGEST)) {
            return refuse(CANT_BE);
        }
        trays.lay(tray, sort, many);
        return agree();
    }

    public boolean write(int tray, int place, long v) {
        int why = trays.whyNot(tray, place);
        if (why != 0) {
            return refuse(why);
        }
        trays.put(tray, place, v);
        return agree();
    }

    public long read(int tray, int place) {
        int why = trays.whyNot(tray, place);
        if (why != 0) {
            return deny(why);
        }
        status = 0;
        return trays.at(tray, place);
    }

    public boolean pour(int from, int place, int to, int at, int many) {
        if (!Trays.isTray(from) || !Trays.isTray(to) || place < 0 || at < 0 || many < 0) {
            return refuse(CANT_BE);
        }
        if (trays.isMissing(from) || trays.isMissing(to)) {
            return refuse(MISSING);
        }
        if (!trays.alike(from, to)) {
            return refuse(UNLIKE);
        }
        if (!trays.reaches(from, place, many) || !trays.reaches(to, at, many)) {
            return refuse(TOO_SHORT);
        }
        trays.carry(from, place, to, at, many);
        return agree();
    }

    // ---- PLACES, people, NOTES

    public int place(int shire) {
        if (!isShire(shire)) {
            return deny(CANT_BE);
        }
        return land.places >= MOST_PLACES ? deny(TOO_MANY) : answer(land.addPlace(shire));
    }

    public int way(int a, int b, int weeks, int from, int to) {
        boolean neverShut = from == NONE && to == NONE;
        if (!land.isPlace(a) || !land.isPlace(b) || a == b || !within(weeks, 1, LONGEST_WAY)
                || !(neverShut || isSpan(from, to))) {
            return deny(CANT_BE);
        }
        if (land.ways >= MOST_WAYS) {
            return deny(TOO_MANY);
        }
        if (land.areJoined(a, b)) {
            return deny(ALREADY);
        }
        year.relive(0);
        return answer(land.addWay(a, b, weeks, from, to));
    }

    public int arrival(int from, int to, int week) {
        if (!land.isPlace(from) || !land.isPlace(to) || !isWeek(week)) {
            return deny(CANT_BE);
        }
        land.travel(from, week);
        return answerOr(NO_SUCH, land.reached(to));
    }

    public int learner(int home, int age, int tongue) {
        if (!land.isPlace(home) || !within(age, 5, 99) || !within(tongue, 0, TONGUES - 1)) {
            return deny(CANT_BE);
        }
        if (land.learners >= MOST_LEARNERS) {
            return deny(TOO_MANY);
        }
        year.relive(0);
        return answer(land.addLearner(home, age, tongue));
    }

    public int teacher(int tongues, int place) {
        if (!within(tongues, 1, (1 << TONGUES) - 1) || !land.isPlace(place)) {
            return deny(CANT_BE);
        }
        return land.teachers >= MOST_TEACHERS ? deny(TOO_MANY) : answer(land.addTeacher(tongues, place));
    }

    public int lamp(int place) {
        if (!land.isPlace(place)) {
            return deny(CANT_BE);
        }
        return land.lamps >= MOST_LAMPS ? deny(TOO_MANY) : answer(land.addLamp(place));
    }

    public boolean note(int sort, int who, int lamp, int from, int to, int known) {
        if (!canBeNoted(sort, who, lamp) || !isSpan(from, to) || !isWeek(known)) {
            return refuse(CANT_BE);
        }
        if (notes.many >= MOST_NOTES) {
            return refuse(TOO_MANY);
        }
        if (known < notes.latestKnown()) {
            return refuse(GONE);
        }
        notes.add(sort, who, lamp, from, to, known);
        if (known <= notes.asOf) {
            year.relive(from);
        }
        return agree();
    }

    private boolean canBeNoted(int sort, int who, int lamp) {
        if (!within(sort, POSTED, ILL)) {
            return false;
        }
        boolean whoIs = sort == POSTED || sort == ILL ? land.isTeacher(who) : land.isLearner(who);
        boolean lampIs = sort == POSTED || sort == COMES ? land.isLamp(lamp) : lamp == NONE;
        return whoIs && lampIs;
    }

    public boolean asof(int week) {
        if (!isWeek(week)) {
            return refuse(CANT_BE);
        }
        year.relive(notes.lookFrom(week));
        return agree();
    }

    public int where(int what, int who, int week) {
        if (!within(what, 0, 1) || !isWeek(week) || !(what == 0 ? land.isTeacher(who) : land.isLearner(who))) {
            return deny(CANT_BE);
        }
        notes.callUp(week);
        return answerOr(NO_SUCH, what == 0 ? notes.teacherLamp[who] : notes.learnerLamp[who]);
    }

    public int lit(int lamp, int week) {
        if (!land.isLamp(lamp) || !isWeek(week)) {
            return deny(CANT_BE);
        }
        notes.callUp(week);
        return answerOr(NO_SUCH, notes.lampTeacher[lamp]);
    }

    // ---- ORDERS

    public int feed(int a, int b, int c, int d, int e) {
        if (!reader.hasRoomForFive()) {
            return NONE;
        }
        reader.append(a);
        reader.append(b);
        reader.append(c);
        reader.append(d);
        reader.append(e);
        return reader.length;
    }

    public int orders(int n, int week, int shires) {
        if (!within(n, 0, reader.length) || !isWeek(week) || !within(shires, 1, (1 << SHIRES) - 1)) {
            return deny(CANT_BE);
        }
        if (book.texts >= MOST_TEXTS) {
            return deny(TOO_MANY);
        }
        reader.parse(n);
        reader.length = 0;
        if (reader.faultKind != 0) {
            return deny(FAULTY);
        }
        year.relive(week);
        return answer(book.keepText(week, shires));
    }

    public int fault(int what) {
        if (what == 0) {
            return reader.faultKind;
        }
        return what == 1 ? reader.faultPlace : NONE;
    }

    public int rules(int shire, int week, int what) {
        if (!isShire(shire) || !isWeek(week) || !within(what, 0, 3)) {
            return deny(CANT_BE);
        }
        Standing standing = book.standingIn(shire, week);
        switch (what) {
            case 0:
                return answer(standing.many);
            case 1:
                return answer(standing.room);
            case 2:
                return answer(standing.pass);
            default:
                return answer(standing.flag);
        }
    }

    public int struck(int shire, int week, int rule) {
        if (!isShire(shire) || !isWeek(week)) {
            return deny(CANT_BE);
        }
        Standing standing = book.standingIn(shire, week);
        if (!within(rule, 0, standing.many - 1)) {
            return deny(CANT_BE);
        }
        return answerWhether(standing.isStruck[rule]);
    }

    public int taught(int learner, int week, int what) {
        if (!land.isLearner(learner) || !isWeek(week) || !within(what, 0, 2)) {
            return deny(CANT_BE);
        }
        year.reach(week);
        int outcome = year.outcomeOf(learner, week);
        if (outcome == Year.NO_LAMP) {
            return deny(NO_SUCH);
        }
        boolean isTaught = outcome >= Year.TAUGHT;
        if (what == 0) {
            return answerWhether(outcome != Year.MAY_NOT);
        }
        if (what == 1) {
            return answerWhether(isTaught);
        }
        return isTaught ? answer(outcome - Year.TAUGHT) : deny(NO_SUCH);
    }

    // ---- LESSONS

    public boolean lesson(int lesson, int needs, int leans, int letters) {
        if (!isLesson(lesson) || !within(needs, 1, MOST_HOURS) || !within(leans, 0, (1 << lesson) - 1)
                || !within(letters, 0, (1 << LETTERS) - 1)) {
            return refuse(CANT_BE);
        }
        lessons.set(lesson, needs, leans, letters);
        year.relive(0);
        return agree();
    }

    public boolean fade(int weeks) {
        if (!within(weeks, 1, 20)) {
            return refuse(CANT_BE);
        }
        lessons.fade = weeks;
        year.relive(0);
        return agree();
    }

    public int knows(int learner, int week) {
        if (!land.isLearner(learner) || !isWeek(week)) {
            return deny(CANT_BE);
        }
        year.reach(week);
        return answer(year.doneBehind(learner, week));
    }

    public int hours(int learner, int lesson, int week) {
        if (!land.isLearner(learner) || !isLesson(lesson) || !isWeek(week)) {
            return deny(CANT_BE);
        }
        year.reach(week);
        return answer(year.hoursBehind(learner, lesson, week));
    }

    public int gap(int learner, int week) {
        if (!land.isLearner(learner) || !isWeek(week)) {
            return deny(CANT_BE);
        }
        year.reach(week);
        return answer(year.gapsBehind(learner, week));
    }

    public int foretold(int learner, int week, int weeks, int hours) {
        if (!land.isLearner(learner) || !isWeek(week) || !within(weeks, 0, 60) || !within(hours, 0, MOST_HOURS)) {
            return deny(CANT_BE);
        }
        year.reach(week);
        return answer(year.foretell(learner, week, weeks, hours));
    }

    // ---- PROOFS

    public int proof(int learner, int week, long told, long written) {
        if (!land.isLearner(learner) || !isWeek(week)
                || Proofs.lengthOf(told) == 0 || Proofs.lengthOf(written) == 0) {
            return deny(CANT_BE);
        }
        return proofs.many >= MOST_PROOFS ? deny(TOO_MANY) : answer(proofs.add(learner, week, told, written));
    }

    public int slips(int proof, int what) {
        if (!proofs.isProof(proof) || !within(what, 0, 3)) {
            return deny(CANT_BE);
        }
        if (what == 1 || what == 2) {
            year.reach(proofs.weekOf[proof] - 1);
        }
        switch (what) {
            case 0:
                return answer(proofs.slipsOf[proof]);
            case 1:
                return answer(owedSlips(proof));
            case 2:
                return answer(proofs.slipsOf[proof] - owedSlips(proof));
            default:
                return answerWhether(isPassed(proof));
        }
    }

    public int owed(int proof, int lesson) {
        if (!proofs.isProof(proof) || !isLesson(lesson)) {
            return deny(CANT_BE);
        }
        year.reach(proofs.weekOf[proof] - 1);
        return answer(proofs.countOwed(proof, lesson, lessons, doneAheadOf(proof)));
    }

    private int owedSlips(int proof) {
        int done = doneAheadOf(proof);
        int sum = 0;
        for (int lesson = 0; lesson < LESSONS; lesson++) {
            sum += proofs.countOwed(proof, lesson, lessons, done);
        }
        return sum;
    }

    private int doneAheadOf(int proof) {
        int weekAhead = proofs.weekOf[proof] - 1;
        return weekAhead < 0 ? 0 : year.doneBehind(proofs.learnerOf[proof], weekAhead);
    }

    private boolean isPassed(int proof) {
        int home = land.home[proofs.learnerOf[proof]];
        return proofs.slipsOf[proof] <= book.standingIn(land.shireOf[home], proofs.weekOf[proof]).pass;
    }

    private boolean canRead(int learner, int week) {
        int latest = proofs.latestBy(learner, week);
        return latest != NONE && isPassed(latest);
    }

    public int reads(int learner, int week) {
        if (!land.isLearner(learner) || !isWeek(week)) {
            return deny(CANT_BE);
        }
        return answerWhether(canRead(learner, week));
    }

    public int flag(int place, int week) {
        if (!land.isPlace(place) || !isWeek(week)) {
            return deny(CANT_BE);
        }
        int atHome = 0;
        int readers = 0;
        for (int learner = 0; learner < land.learners; learner++) {
            if (land.home[learner] == place) {
                atHome++;
                readers += canRead(learner, week) ? 1 : 0;
            }
        }
        int hundredths = book.standingIn(land.shireOf[place], week).flag;
        return answerWhether(atHome > 0 && readers * 100 >= hundredths * atHome);
    }

    // ---- SENT, COUNTS, NEAR

    public int send(int lamps, int teachers, int many, int week) {
        if (!Trays.isTray(lamps) || !Trays.isTray(teachers) || !within(many, 1, MOST_SENT) || !isWeek(week)) {
            return deny(CANT_BE);
        }
        if (trays.isMissing(lamps) || trays.isMissing(teachers)) {
            return deny(MISSING);
        }
        if (!trays.reaches(lamps, 0, many) || !trays.reaches(teachers, 0, many)) {
            return deny(TOO_SHORT);
        }
        if (!trays.startsWithUnlike(lamps, many, land.lamps)
                || !trays.startsWithUnlike(teachers, many, land.teachers)) {
            return deny(CANT_BE);
        }
        sending.begin(many);
        for (int k = 0; k < many; k++) {
            sending.name(k, (int) trays.at(lamps, k), (int) trays.at(teachers, k));
        }
        notes.callUp(week);
        sending.measure(land, notes, week);
        return answerOr(NO_SUCH, sending.choose());
    }

    public int sent(int k) {
        if (k < 0) {
            return deny(CANT_BE);
        }
        return k >= sending.sentMany ? deny(NO_SUCH) : answer(sending.sentTo[k]);
    }

    public int count(int all, int drawn, int found, int what) {
        if (!within(all, 1, MOST_COUNTED) || !within(drawn, 1, all) || !within(found, 0, drawn)
                || !within(what, 0, 1)) {
            return deny(CANT_BE);
        }
        return answer(what == 0 ? draws.low(all, drawn, found) : draws.high(all, drawn, found));
    }

    public int near(int lamp, int week) {
        if (!land.isLamp(lamp) || !isWeek(week)) {
            return deny(CANT_BE);
        }
        notes.callUp(week);
        if (notes.lampTeacher[lamp] != NONE) {
            return deny(ALREADY);
        }
        land.travel(land.lampPlace[lamp], week);
        int best = NONE;
        int soonest = WEEKS;
        for (int other = 0; other < land.lamps; other++) {
            int reached = land.reached(land.lampPlace[other]);
            if (reached != NONE && reached < soonest && hasSeat(other, week)) {
                best = other;
                soonest = reached;
            }
        }
        return answerOr(NO_SUCH, best);
    }

    private boolean hasSeat(int lamp, int week) {
        int shire = land.shireOf[land.lampPlace[lamp]];
        return notes.lampTeacher[lamp] != NONE && notes.lampLearners[lamp] < book.standingIn(shire, week).room;
    }

    // ---- what all calls share

    private int answer(int told) {
        status = 0;
        return told;
    }

    private int answerWhether(boolean holds) {
        return answer(holds ? 1 : 0);
    }

    private int answerOr(int why, int told) {
        return told == NONE ? deny(why) : answer(told);
    }

    private int deny(int why) {
        status = why;
        return NONE;
    }

    private boolean agree() {
        status = 0;
        return true;
    }

    private boolean refuse(int why) {
        status = why;
        return false;
    }

    private static boolean within(int v, int least, int greatest) {
        return v >= least && v <= greatest;
    }

    private static boolean isWeek(int week) {
        return within(week, 0, WEEKS - 1);
    }

    private static boolean isSpan(int from, int to) {
        return isWeek(from) && isWeek(to) && from <= to;
    }

    private static boolean isShire(int shire) {
        return within(shire, 0, SHIRES - 1);
    }

    private static boolean isLesson(int lesson) {
        return within(lesson, 0, LESSONS - 1);
    }

    /** The TRAYS, all in one row of longs: a number is cut to its sort when it is put in. */
    private static final class Trays {
        static final int SORTS = 4;
        static final int LONGEST = 60;
        private static final int TRAYS = 4;

        private final long[] numbers = new long[TRAYS * LONGEST];
        private final int[] sortOf = new int[TRAYS];
        private final int[] sizeOf = new int[TRAYS];

        Trays() {
            Arrays.fill(sizeOf, NONE);
        }

        static boolean isTray(int tray) {
            return within(tray, 0, TRAYS - 1);
        }

        boolean isMissing(int tray) {
            return sizeOf[tray] == NONE;
        }

        boolean alike(int one, int other) {
            return sortOf[one] == sortOf[other];
        }

        /** Whether so many numbers stand there from a place on; many and place are not below 0. */
        boolean reaches(int tray, int place, int many) {
            return place <= sizeOf[tray] - many;
        }

        int whyNot(int tray, int place) {
            if (!isTray(tray)) {
                return CANT_BE;
            }
            if (isMissing(tray)) {
                return MISSING;
            }
            return within(place, 0, sizeOf[tray] - 1) ? 0 : TOO_SHORT;
        }

        void lay(int tray, int sort, int many) {
            sortOf[tray] = sort;
            sizeOf[tray] = many;
            Arrays.fill(numbers, tray * LONGEST, tray * LONGEST + many, 0L);
        }

        void put(int tray, int place, long v) {
            numbers[tray * LONGEST + place] = cut(v, sortOf[tray]);
        }

        private static long cut(long v, int sort) {
            switch (sort) {
                case 0:
                    return (byte) v;
                case 1:
                    return (short) v;
                case 2:
                    return (int) v;
                default:
                    return v;
            }
        }

        long at(int tray, int place) {
            return numbers[tray * LONGEST + place];
        }

        void carry(int from, int place, int to, int at, int many) {
            System.arraycopy(numbers, from * LONGEST + place, numbers, to * LONGEST + at, many);
        }

        /** Whether the first numbers of a TRAY are all below a bound and none of them stands twice. */
        boolean startsWithUnlike(int tray, int many, int bound) {
            long seen = 0;
            for (int k = 0; k < many; k++) {
                long v = at(tray, k);
                if (v < 0 || v >= bound || (seen >> v & 1) != 0) {
                    return false;
                }
                seen |= 1L << v;
            }
            return true;
        }
    }

    /** PLACES, WAYS and who and what is in the PLACES. */
    private static final class Land {
        private int places;
        private final int[] shireOf = new int[MOST_PLACES];
        private int ways;
        private final int[] wayA = new int[MOST_WAYS];
        private final int[] wayB = new int[MOST_WAYS];
        private final int[] wayWeeks = new int[MOST_WAYS];
        private final int[] shutFrom = new int[MOST_WAYS];
        private final int[] shutTo = new int[MOST_WAYS];
        private int learners;
        private final int[] home = new int[MOST_LEARNERS];
        private final int[] age = new int[MOST_LEARNERS];
        private final int[] tongue = new int[MOST_LEARNERS];
        private int teachers;
        private final int[] tongues = new int[MOST_TEACHERS];
        private final int[] waitsAt = new int[MOST_TEACHERS];
        private int lamps;
        private final int[] lampPlace = new int[MOST_LAMPS];
        private final int[] arrivals = new int[MOST_PLACES];

        boolean isPlace(int place) {
            return within(place, 0, places - 1);
        }

        boolean isLearner(int who) {
            return within(who, 0, learners - 1);
        }

        boolean isTeacher(int who) {
            return within(who, 0, teachers - 1);
        }

        boolean isLamp(int lamp) {
            return within(lamp, 0, lamps - 1);
        }

        int addPlace(int shire) {
            shireOf[places] = shire;
            return places++;
        }

        int addWay(int a, int b, int weeks, int from, int to) {
            wayA[ways] = a;
            wayB[ways] = b;
            wayWeeks[ways] = weeks;
            shutFrom[ways] = from;
            shutTo[ways] = to;
            return ways++;
        }

        int addLearner(int where, int years, int speaks) {
            home[learners] = where;
            age[learners] = years;
            tongue[learners] = speaks;
            return learners++;
        }

        int addTeacher(int speaks, int where) {
            tongues[teachers] = speaks;
            waitsAt[teachers] = where;
            return teachers++;
        }

        int addLamp(int where) {
            lampPlace[lamps] = where;
            return lamps++;
        }

        boolean areJoined(int a, int b) {
            for (int w = 0; w < ways; w++) {
                if (wayA[w] == a && wayB[w] == b || wayA[w] == b && wayB[w] == a) {
                    return true;
                }
            }
            return false;
        }

        private boolean isShut(int w, int week) {
            return shutFrom[w] <= week && week <= shutTo[w];
        }

        boolean rainsIn(int place, int week) {
            boolean hasWay = false;
            for (int w = 0; w < ways; w++) {
                if (wayA[w] == place || wayB[w] == place) {
                    if (!isShut(w, week)) {
                        return false;
                    }
                    hasWay = true;
                }
            }
            return hasWay;
        }

        /** Finds the ARRIVALS in all PLACES of one who is in a PLACE in a WEEK. */
        void travel(int from, int week) {
            Arrays.fill(arrivals, WEEKS);
            arrivals[from] = week;
            // who waits is never later than who does not, so a shortest path visits no PLACE twice
            boolean sooner = true;
            for (int round = 0; round < MOST_PLACES && sooner; round++) {
                sooner = false;
                for (int w = 0; w < ways; w++) {
                    sooner |= walk(w, wayA[w], wayB[w]);
                    sooner |= walk(w, wayB[w], wayA[w]);
                }
            }
        }

        private boolean walk(int w, int from, int to) {
            int enters = isShut(w, arrivals[from]) ? shutTo[w] + 1 : arrivals[from];
            int ends = enters + wayWeeks[w];
            if (ends >= WEEKS || ends >= arrivals[to]) {
                return false;
            }
            arrivals[to] = ends;
            return true;
        }

        /** ARRIVAL in a PLACE by the latest travel(), or NONE. */
        int reached(int place) {
            return arrivals[place] < WEEKS ? arrivals[place] : NONE;
        }
    }

    /** The NOTES, and who is at which LAMP by them in the WEEK that was called up last. */
    private static final class Notes {
        private int many;
        private final int[] sortOf = new int[MOST_NOTES];
        private final int[] who = new int[MOST_NOTES];
        private final int[] lampOf = new int[MOST_NOTES];
        private final int[] from = new int[MOST_NOTES];
        private final int[] to = new int[MOST_NOTES];
        private final int[] knownBy = new int[MOST_NOTES];
        private int asOf = WEEKS - 1;

        private int weekCalled = NONE;
        private final int[] teacherLamp = new int[MOST_TEACHERS];
        private final int[] learnerLamp = new int[MOST_LEARNERS];
        private final int[] lampTeacher = new int[MOST_LAMPS];
        private final int[] lampLearners = new int[MOST_LAMPS];

        int latestKnown() {
            return many == 0 ? 0 : knownBy[many - 1];
        }

        void add(int sort, int whose, int lamp, int first, int last, int known) {
            sortOf[many] = sort;
            who[many] = whose;
            lampOf[many] = lamp;
            from[many] = first;
            to[many] = last;
            knownBy[many] = known;
            many++;
            weekCalled = NONE;
        }

        /** Sets AS OF; tells the first WEEK of which other NOTES tell now, or WEEKS. */
        int lookFrom(int week) {
            int least = Math.min(week, asOf);
            int greatest = Math.max(week, asOf);
            int first = WEEKS;
            for (int i = 0; i < many; i++) {
                if (knownBy[i] > least && knownBy[i] <= greatest) {
                    first = Math.min(first, from[i]);
                }
            }
            asOf = week;
            weekCalled = NONE;
            return first;
        }

        void callUp(int week) {
            if (weekCalled == week) {
                return;
            }
            weekCalled = week;
            Arrays.fill(teacherLamp, NONE);
            Arrays.fill(learnerLamp, NONE);
            for (int i = 0; i < many; i++) {
                if (tellsOf(i, week) && sortOf[i] == POSTED) {
                    teacherLamp[who[i]] = lampOf[i];
                } else if (tellsOf(i, week) && sortOf[i] == COMES) {
                    learnerLamp[who[i]] = lampOf[i];
                }
            }
            // AWAY and ILL hold whenever they were told, so they come behind all the others
            for (int i = 0; i < many; i++) {
                if (tellsOf(i, week) && sortOf[i] == AWAY) {
                    learnerLamp[who[i]] = NONE;
                } else if (tellsOf(i, week) && sortOf[i] == ILL) {
                    teacherLamp[who[i]] = NONE;
                }
            }
            gatherAtLamps();
        }

        private boolean tellsOf(int i, int week) {
            return from[i] <= week && week <= to[i] && knownBy[i] <= asOf;
        }

        private void gatherAtLamps() {
            Arrays.fill(lampTeacher, NONE);
            Arrays.fill(lampLearners, 0);
            for (int t = MOST_TEACHERS - 1; t >= 0; t--) {
                if (teacherLamp[t] != NONE) {
                    lampTeacher[teacherLamp[t]] = t;
                }
            }
            for (int learner = 0; learner < MOST_LEARNERS; learner++) {
                if (learnerLamp[learner] != NONE) {
                    lampLearners[learnerLamp[learner]]++;
                }
            }
        }
    }

    /**
     * The TEXTS of the ORDERS with their RULES. What a RULE reckons is kept as a row of codes, operands
     * ahead of their operator: a NUMBER is its own code, VARIABLES and operators are above.
     */
    private static final class Book {
        static final int VARIABLES = 7;
        private static final int FIRST_VARIABLE_CODE = 10_000;
        private static final int FIRST_OPERATOR_CODE = FIRST_VARIABLE_CODE + VARIABLES;
        private static final int DEEPEST = 64;

        private int texts;
        private final int[] beganIn = new int[MOST_TEXTS];
        private final int[] shiresOf = new int[MOST_TEXTS];
        private final int[] firstRule = new int[MOST_TEXTS + 1];
        private final int[] byBegin = new int[MOST_TEXTS];

        private final long[] label = new long[MOST_TEXTS * MOST_RULES];
        private final long[] strikes = new long[MOST_TEXTS * MOST_RULES];
        private final int[] does = new int[MOST_TEXTS * MOST_RULES];
        private final int[] limit = new int[MOST_TEXTS * MOST_RULES];
        private final int[] begin = new int[MOST_TEXTS * MOST_RULES];
        private final int[] unless = new int[MOST_TEXTS * MOST_RULES];
        private final int[] end = new int[MOST_TEXTS * MOST_RULES];
        private final int[] codes = new int[MOST_TEXTS * MOST_BYTES];
        private int codesKept;

        // the TEXT that is being read: it stands behind those that are kept, and is kept only when it is whole
        private int draftRules;
        private int draftCodes;

        private final Standing[] standings = new Standing[SHIRES];
        private final long[] stack = new long[DEEPEST];

        Book() {
            for (int shire = 0; shire < SHIRES; shire++) {
                standings[shire] = new Standing();
            }
        }

        void openText() {
            draftRules = 0;
            draftCodes = codesKept;
        }

        boolean isFull() {
            return draftRules >= MOST_RULES || texts >= MOST_TEXTS;
        }

        boolean hasDraft(long name) {
            int first = firstRule[texts];
            for (int r = first; r < first + draftRules; r++) {
                if (label[r] == name) {
                    return true;
                }
            }
            return false;
        }

        void openRule(long name) {
            int r = firstRule[texts] + draftRules;
            label[r] = name;
            strikes[r] = NONE;
            does[r] = 0;
            limit[r] = 0;
            begin[r] = draftCodes;
            unless[r] = NONE;
            end[r] = draftCodes;
            draftRules++;
        }

        /** The RULE that was opened last; asked only behind openRule(). */
        private int draft() {
            return Math.max(0, firstRule[texts] + draftRules - 1);
        }

        void draftStrikes(long name) {
            strikes[draft()] = name;
        }

        void draftDoes(int what) {
            does[draft()] = what;
        }

        void draftLimit(int number) {
            limit[draft()] = number;
        }

        void draftUnless() {
            unless[draft()] = draftCodes;
        }

        boolean hasUnless() {
            return unless[draft()] != NONE;
        }

        void closeRule() {
            int r = draft();
            end[r] = draftCodes;
            if (unless[r] == NONE) {
                // an empty row of codes comes to 0, so it never holds
                unless[r] = draftCodes;
            }
        }

        void addCode(int code) {
            if (draftCodes < codes.length) {
                codes[draftCodes] = code;
                draftCodes++;
            }
        }

        /** Keeps the TEXT that was read; tells how many RULES it has. */
        int keepText(int week, int shires) {
            int at = texts;
            while (at > 0 && beganIn[byBegin[at - 1]] > week) {
                byBegin[at] = byBegin[at - 1];
                at--;
            }
            byBegin[at] = texts;
            beganIn[texts] = week;
            shiresOf[texts] = shires;
            firstRule[texts + 1] = firstRule[texts] + draftRules;
            codesKept = draftCodes;
            texts++;
            return draftRules;
        }

        Standing standingIn(int shire, int week) {
            int inForce = 0;
            for (int t = 0; t < texts; t++) {
                if (beganIn[t] <= week && (shiresOf[t] >> shire & 1) != 0) {
                    inForce |= 1 << t;
                }
            }
            standings[shire].gather(this, inForce);
            return standings[shire];
        }

        /** What a row of codes comes to; a TEST to 1 if it holds, else to 0. */
        long run(int from, int to, long[] facts) {
            int top = NONE;
            for (int i = from; i < to; i++) {
                int code = codes[i];
                if (code < FIRST_OPERATOR_CODE) {
                    if (top < DEEPEST - 1) {
                        top++;
                        stack[top] = code < FIRST_VARIABLE_CODE ? code : facts[code - FIRST_VARIABLE_CODE];
                    }
                } else if (code == FIRST_OPERATOR_CODE + Reader.NOT) {
                    if (top >= 0) {
                        stack[top] = 1 - stack[top];
                    }
                } else if (top > 0) {
                    top--;
                    stack[top] = reckon(code - FIRST_OPERATOR_CODE, stack[top], stack[top + 1]);
                }
            }
            return top >= 0 ? stack[top] : 0;
        }

        private static long reckon(int operator, long a, long b) {
            switch (operator) {
                case '+':
                    return a + b;
                case '-':
                    return a - b;
                case '*':
                    return a * b;
                case '/':
                    return b == 0 ? 0 : a / b;
                case '<':
                    return a < b ? 1 : 0;
                case '>':
                    return a > b ? 1 : 0;
                case '=':
                    return a == b ? 1 : 0;
                case Reader.AND:
                    return a & b;
                default:
                    return a | b;
            }
        }
    }

    /** The RULES that stand in a SHIRE one behind the other. */
    private static final class Standing {
        private static final int MOST = MOST_TEXTS * MOST_RULES;

        private int inForce = NONE;
        private int many;
        private final int[] ruleAt = new int[MOST];
        private final boolean[] isStruck = new boolean[MOST];
        private int mays;
        private final int[] mayRules = new int[MOST];
        private int tellers;
        private final int[] hoursRules = new int[MOST];
        private int room;
        private int pass;
        private int flag;

        /** Gathers the RULES of a set of TEXTS; kept TEXTS never change, so the same set needs no new look. */
        void gather(Book book, int texts) {
            if (texts == inForce) {
                return;
            }
            inForce = texts;
            many = 0;
            for (int i = 0; i < book.texts; i++) {
                int text = book.byBegin[i];
                if ((texts >> text & 1) != 0) {
                    for (int r = book.firstRule[text]; r < book.firstRule[text + 1]; r++) {
                        ruleAt[many] = r;
                        many++;
                    }
                }
            }
            strike(book);
            listen(book);
        }

        private void strike(Book book) {
            for (int i = 0; i < many; i++) {
                long label = book.label[ruleAt[i]];
                boolean hit = false;
                for (int j = i + 1; j < many && !hit; j++) {
                    hit = book.strikes[ruleAt[j]] == label;
                }
                isStruck[i] = hit;
            }
        }

        private void listen(Book book) {
            mays = 0;
            tellers = 0;
            room = 40;
            pass = 0;
            flag = 100;
            for (int i = 0; i < many; i++) {
                int rule = ruleAt[i];
                switch (isStruck[i] ? 0 : book.does[rule]) {
                    case Reader.MAY:
                        mayRules[mays] = rule;
                        mays++;
                        break;
                    case Reader.HOURS:
                        hoursRules[tellers] = rule;
                        tellers++;
                        break;
                    case Reader.ROOM:
                        room = book.limit[rule];
                        break;
                    case Reader.PASS:
                        pass = book.limit[rule];
                        break;
                    case Reader.FLAG:
                        flag = book.limit[rule];
                        break;
                    default:
                        break;
                }
            }
        }

        boolean asksForFacts() {
            return mays + tellers > 0;
        }

        boolean admits(Book book, long[] facts) {
            for (int i = 0; i < mays; i++) {
                int r = mayRules[i];
                if (book.run(book.begin[r], book.unless[r], facts) != 0
                        && book.run(book.unless[r], book.end[r], facts) == 0) {
                    return true;
                }
            }
            return mays == 0;
        }

        int hoursFor(Book book, long[] facts) {
            boolean told = false;
            long most = 0;
            for (int i = 0; i < tellers; i++) {
                int r = hoursRules[i];
                if (book.run(book.unless[r], book.end[r], facts) == 0) {
                    long worth = book.run(book.begin[r], book.unless[r], facts);
                    most = told ? Math.max(most, worth) : worth;
                    told = true;
                }
            }
            return told ? (int) Math.max(0, Math.min(most, MOST_HOURS)) : 6;
        }
    }

    /**
     * The tape, and what reads a TEXT from it TOKEN by TOKEN. Only brackets nest in a TEXT, and they are
     * counted; so a state tells what can stand next, and operators wait in a row till those that bind
     * closer are through.
     */
    private static final class Reader {
        private static final String WORDS =
                "strikes may unless hours room pass flag or and not age tongue many week done rain shire ";
        private static final String SIGNS = ";:<>=+-*/()";

        // FAULTS, as the document numbers them
        private static final int NO_TOKEN = 1;
        private static final int OUT_OF_PLACE = 2;
        private static final int RULE_TOO_MANY = 3;
        private static final int LABEL_TWICE = 4;
        private static final int TOO_DEEP = 5;
        private static final int WRONG_NUMBER = 6;

        // TOKENS; a SIGN is told by its own character, words by their place in WORDS
        private static final int BAD = 0;
        private static final int END = 1;
        private static final int NUMBER = 2;
        private static final int NAME = 3;
        private static final int LONG_WORD = 4;
        private static final int STRIKES = 100;
        static final int MAY = 101;
        private static final int UNLESS = 102;
        static final int HOURS = 103;
        static final int ROOM = 104;
        static final int PASS = 105;
        static final int FLAG = 106;
        private static final int OR = 107;
        static final int AND = 108;
        static final int NOT = 109;
        private static final int FIRST_VARIABLE = 110;

        // states: what is to come
        private static final int A_RULE = 0;
        private static final int STRIKES_OR_COLON = 1;
        private static final int STRUCK_LABEL = 2;
        private static final int COLON = 3;
        private static final int DOES = 4;
        private static final int LIMIT = 5;
        private static final int SEMICOLON = 6;
        private static final int A_ONE = 7;
        private static final int ATOM = 8;
        private static final int BEHIND_ATOM = 9;

        // which SUM it is
        private static final int OF_HOURS = 0;
        private static final int AHEAD_OF_COMPARES = 1;
        private static final int BEHIND_COMPARES = 2;

        private static final int LONGEST_WORD = 8;
        private static final int MOST_BRACKETS = 6;

        private final Book book;
        private final byte[] tape = new byte[MOST_BYTES];
        private int length;
        private final long[] words = new long[Book.VARIABLES + FIRST_VARIABLE - STRIKES];
        private int faultKind = NONE;
        private int faultPlace = NONE;

        private int next;
        private int token;
        private int tokenPlace;
        private long tokenWord;
        private int tokenNumber;

        private int state;
        private int sum;
        private int does;
        private int brackets;
        private final int[] waiting = new int[64];
        private int waits;

        Reader(Book book) {
            this.book = book;
            int word = 0;
            long packed = 0;
            for (int i = 0; i < WORDS.length() && word < words.length; i++) {
                char c = WORDS.charAt(i);
                if (c == ' ') {
                    words[word] = packed;
                    word++;
                    packed = 0;
                } else {
                    packed = pack(packed, c);
                }
            }
        }

        private static long pack(long packed, int letter) {
            return packed << 5 | letter - 'a' + 1;
        }

        boolean hasRoomForFive() {
            return length + 20 <= MOST_BYTES;
        }

        void append(int four) {
            for (int shift = 24; shift >= 0 && length < MOST_BYTES; shift -= 8) {
                tape[length] = (byte) (four >> shift);
                length++;
            }
        }

        /** Reads the first n bytes as a TEXT into the book's draft, up to the first FAULT if there is one. */
        void parse(int n) {
            book.openText();
            next = 0;
            state = A_RULE;
            faultKind = 0;
            faultPlace = NONE;
            boolean ended = false;
            for (int step = 0; step <= n && !ended; step++) {
                scan(n);
                int kind = token == BAD ? NO_TOKEN : take();
                if (kind != 0) {
                    faultKind = kind;
                    faultPlace = tokenPlace;
                }
                ended = kind != 0 || token == END;
            }
        }

        // ---- TOKENS

        private void scan(int n) {
            while (next < n && (tape[next] == 10 || tape[next] == 32)) {
                next++;
            }
            tokenPlace = next;
            if (next >= n) {
                token = END;
            } else if (isLetter(tape[next])) {
                scanWord(n);
            } else if (isDigit(tape[next])) {
                scanNumber(n);
            } else {
                // a byte above 127 is below 0 here, and so no SIGN
                token = tape[next] > 0 && SIGNS.indexOf((char) tape[next]) >= 0 ? tape[next] : BAD;
                next++;
            }
        }

        private static boolean isLetter(int c) {
            return c >= 'a' && c <= 'z';
        }

        private static boolean isDigit(int c) {
            return c >= '0' && c <= '9';
        }

        private void scanWord(int n) {
            long packed = 0;
            while (next < n && isLetter(tape[next])) {
                packed = pack(packed, tape[next]);
                next++;
            }
            tokenWord = packed;
            token = next - tokenPlace > LONGEST_WORD ? LONG_WORD : NAME;
            for (int i = 0; i < words.length && token == NAME; i++) {
                if (words[i] == packed) {
                    token = STRIKES + i;
                }
            }
        }

        private void scanNumber(int n) {
            int value = 0;
            while (next < n && isDigit(tape[next])) {
                value = value * 10 + tape[next] - '0';
                next++;
            }
            tokenNumber = value;
            token = next - tokenPlace > 4 ? BAD : NUMBER;
        }

        // ---- what can stand where: each tells the FAULT of the TOKEN, 0 without one

        private int take() {
            switch (state) {
                case A_RULE:
                    return takeRule();
                case STRIKES_OR_COLON:
                    return token == STRIKES ? goOn(STRUCK_LABEL) : takeOnly(':', DOES);
                case STRUCK_LABEL:
                    return takeStruckLabel();
                case COLON:
                    return takeOnly(':', DOES);
                case DOES:
                    return takeDoes();
                case LIMIT:
                    return takeLimit();
                case SEMICOLON:
                    return takeOnly(';', A_RULE);
                case A_ONE:
                    return takeOne();
                case ATOM:
                    return takeAtom();
                default:
                    return brackets > 0 || isReckoner(token) ? takeInSum() : takeBehindSum();
            }
        }

        private int goOn(int to) {
            state = to;
            return 0;
        }

        private int takeOnly(int wanted, int to) {
            return token == wanted ? goOn(to) : OUT_OF_PLACE;
        }

        private int takeRule() {
            if (token == END) {
                return 0;
            }
            if (token != NAME) {
                return OUT_OF_PLACE;
            }
            if (book.isFull()) {
                return RULE_TOO_MANY;
            }
            if (book.hasDraft(tokenWord)) {
                return LABEL_TWICE;
            }
            book.openRule(tokenWord);
            return goOn(STRIKES_OR_COLON);
        }

        private int takeStruckLabel() {
            if (token != NAME) {
                return OUT_OF_PLACE;
            }
            book.draftStrikes(tokenWord);
            return goOn(COLON);
        }

        private int takeDoes() {
            does = token;
            book.draftDoes(token);
            switch (token) {
                case MAY:
                    return openSum(AHEAD_OF_COMPARES, A_ONE);
                case HOURS:
                    return openSum(OF_HOURS, ATOM);
                case ROOM:
                case PASS:
                case FLAG:
                    return goOn(LIMIT);
                default:
                    return OUT_OF_PLACE;
            }
        }

        private int openSum(int which, int to) {
            sum = which;
            brackets = 0;
            waits = 0;
            return goOn(to);
        }

        private int takeLimit() {
            if (token != NUMBER) {
                return OUT_OF_PLACE;
            }
            int least = does == PASS ? 0 : 1;
            int greatest = does == FLAG ? 100 : 40;
            if (!within(tokenNumber, least, greatest)) {
                return WRONG_NUMBER;
            }
            book.draftLimit(tokenNumber);
            return goOn(SEMICOLON);
        }

        private int takeOne() {
            if (token == NOT) {
                await(NOT);
                return goOn(ATOM);
            }
            return takeAtom();
        }

        private int takeAtom() {
            if (token == '(') {
                if (brackets >= MOST_BRACKETS) {
                    return TOO_DEEP;
                }
                brackets++;
                await('(');
                return goOn(ATOM);
            }
            if (token == NUMBER) {
                book.addCode(tokenNumber);
                return goOn(BEHIND_ATOM);
            }
            if (token >= FIRST_VARIABLE) {
                book.addCode(Book.FIRST_VARIABLE_CODE + token - FIRST_VARIABLE);
                return goOn(BEHIND_ATOM);
            }
            return OUT_OF_PLACE;
        }

        private static boolean isReckoner(int c) {
            return c == '+' || c == '-' || c == '*' || c == '/';
        }

        private int takeInSum() {
            if (isReckoner(token)) {
                return takeOperator(sum, ATOM);
            }
            if (token != ')') {
                return OUT_OF_PLACE;
            }
            release(1);
            if (waits > 0) {
                waits--;
            }
            brackets--;
            return 0;
        }

        private int takeBehindSum() {
            switch (token) {
                case '<':
                case '>':
                case '=':
                    return sum == AHEAD_OF_COMPARES ? takeOperator(BEHIND_COMPARES, ATOM) : OUT_OF_PLACE;
                case AND:
                case OR:
                    return sum == BEHIND_COMPARES ? takeOperator(AHEAD_OF_COMPARES, A_ONE) : OUT_OF_PLACE;
                case UNLESS:
                    return sum == AHEAD_OF_COMPARES || book.hasUnless() ? OUT_OF_PLACE : openUnless();
                case ';':
                    return sum == AHEAD_OF_COMPARES ? OUT_OF_PLACE : closeRule();
                default:
                    return OUT_OF_PLACE;
            }
        }

        private int openUnless() {
            release(1);
            book.draftUnless();
            return openSum(AHEAD_OF_COMPARES, A_ONE);
        }

        private int closeRule() {
            release(1);
            book.closeRule();
            return goOn(A_RULE);
        }

        // ---- operators that wait

        /** The closer an operator binds, the greater. */
        private static int bindingOf(int operator) {
            switch (operator) {
                case '(':
                    return 0;
                case OR:
                    return 1;
                case AND:
                    return 2;
                case NOT:
                    return 3;
                case '<':
                case '>':
                case '=':
                    return 4;
                case '+':
                case '-':
                    return 5;
                default:
                    return 6;
            }
        }

        private int takeOperator(int sumThen, int to) {
            release(bindingOf(token));
            await(token);
            sum = sumThen;
            return goOn(to);
        }

        private void await(int operator) {
            if (waits < waiting.length) {
                waiting[waits] = operator;
                waits++;
            }
        }

        /** Writes the waiting operators that bind at least so closely, back to the last open bracket. */
        private void release(int binding) {
            while (waits > 0 && bindingOf(waiting[waits - 1]) >= binding) {
                waits--;
                book.addCode(Book.FIRST_OPERATOR_CODE + waiting[waits]);
            }
        }
    }

    /** What LESSONS need, lean on and teach, and how a row of hours grows and fades by them. */
    private static final class Lessons {
        private final int[] needs = new int[LESSONS];
        private final int[] leans = new int[LESSONS];
        private final int[] letters = new int[LESSONS];
        private int fade = 4;

        Lessons() {
            for (int lesson = 0; lesson < LESSONS; lesson++) {
                needs[lesson] = 6;
                letters[lesson] = 1 << lesson;
                if (lesson + LESSONS < LETTERS) {
                    letters[lesson] |= 1 << lesson + LESSONS;
                }
            }
        }

        void set(int lesson, int hours, int others, int teaches) {
            needs[lesson] = hours;
            leans[lesson] = others;
            letters[lesson] = teaches;
        }

        /** The first LESSON that teaches a letter (a is 0), or NONE. */
        int firstFor(int letter) {
            for (int lesson = 0; lesson < LESSONS; lesson++) {
                if ((letters[lesson] >> letter & 1) != 0) {
                    return lesson;
                }
            }
            return NONE;
        }

        static int worthAt(int age, int hours) {
            if (age < 40) {
                return hours;
            }
            return age < 60 ? hours * 3 / 4 : hours / 2;
        }

        int doneIn(byte[] rows, int at) {
            int done = 0;
            for (int lesson = 0; lesson < LESSONS; lesson++) {
                if (rows[at + lesson] >= needs[lesson]) {
                    done |= 1 << lesson;
                }
            }
            return done;
        }

        void learn(byte[] rows, int at, int hours) {
            int done = doneIn(rows, at);
            int left = hours;
            // a LESSON leans on lesser ones alone, so one that is DONE now opens none that was passed by
            for (int lesson = 0; lesson < LESSONS && left > 0; lesson++) {
                int bit = 1 << lesson;
                if ((done & bit) == 0 && (leans[lesson] & ~done) == 0) {
                    int given = Math.min(left, needs[lesson] - rows[at + lesson]);
                    rows[at + lesson] += (byte) given;
                    left -= given;
                    if (rows[at + lesson] >= needs[lesson]) {
                        done |= bit;
                    }
                }
            }
        }

        void forget(byte[] rows, int at) {
            int done = doneIn(rows, at);
            // only greater LESSONS lean on one, so on the greatest that is DONE leans no DONE one
            for (int lesson = LESSONS - 1; lesson >= 0; lesson--) {
                if ((done >> lesson & 1) != 0) {
                    rows[at + lesson] = 0;
                    return;
                }
            }
        }
    }

    /**
     * What the LEARNERS have behind each WEEK. The year is lived WEEK by WEEK as far as a call asks, and
     * kept; a change drops only the WEEKS that it can touch.
     */
    private static final class Year {
        static final int NO_LAMP = 0;
        static final int MAY_NOT = 1;
        static final int NO_ROOM = 2;
        /** This and the HOURS. */
        static final int TAUGHT = 3;

        private final Land land;
        private final Notes notes;
        private final Book book;
        private final Lessons lessons;

        private int lived;
        private final byte[] outcomes = new byte[WEEKS * MOST_LEARNERS];
        private final byte[] hours = new byte[WEEKS * MOST_LEARNERS * LESSONS];
        private final byte[] gaps = new byte[WEEKS * MOST_LEARNERS];
        private final long[] facts = new long[Book.VARIABLES];
        private final int[] seated = new int[MOST_LAMPS];
        private final byte[] foretold = new byte[LESSONS];

        Year(Land land, Notes notes, Book book, Lessons lessons) {
            this.land = land;
            this.notes = notes;
            this.book = book;
            this.lessons = lessons;
        }

        void relive(int fromWeek) {
            lived = Math.min(lived, fromWeek);
        }

        void reach(int week) {
            for (int w = lived; w <= week; w++) {
                live(w);
                lived = w + 1;
            }
        }

        int outcomeOf(int learner, int week) {
            return outcomes[cell(learner, week)];
        }

        int doneBehind(int learner, int week) {
            return lessons.doneIn(hours, cell(learner, week) * LESSONS);
        }

        int hoursBehind(int learner, int lesson, int week) {
            return hours[cell(learner, week) * LESSONS + lesson];
        }

        int gapsBehind(int learner, int week) {
            return gaps[cell(learner, week)];
        }

        private static int cell(int learner, int week) {
            return week * MOST_LEARNERS + learner;
        }

        private void live(int week) {
            notes.callUp(week);
            Arrays.fill(seated, 0);
            for (int learner = 0; learner < land.learners; learner++) {
                int outcome = judge(learner, week);
                int here = cell(learner, week);
                int row = here * LESSONS;
                int gap = 0;
                if (week == 0) {
                    Arrays.fill(hours, row, row + LESSONS, (byte) 0);
                } else {
                    int ahead = cell(learner, week - 1);
                    System.arraycopy(hours, ahead * LESSONS, hours, row, LESSONS);
                    gap = gaps[ahead];
                }
                outcomes[here] = (byte) outcome;
                if (outcome >= TAUGHT) {
                    lessons.learn(hours, row, Lessons.worthAt(land.age[learner], outcome - TAUGHT));
                    gaps[here] = 0;
                } else {
                    gaps[here] = (byte) (gap + 1);
                    if (gap >= lessons.fade) {
                        lessons.forget(hours, row);
                    }
                }
            }
        }

        /** What becomes of a LEARNER in a WEEK; asked by number, as those ahead take their seats first. */
        private int judge(int learner, int week) {
            int lamp = notes.learnerLamp[learner];
            if (lamp == NONE || notes.lampTeacher[lamp] == NONE) {
                return NO_LAMP;
            }
            int place = land.lampPlace[lamp];
            Standing standing = book.standingIn(land.shireOf[place], week);
            if (standing.asksForFacts()) {
                gatherFacts(learner, lamp, week);
            }
            if (!standing.admits(book, facts)) {
                return MAY_NOT;
            }
            if (seated[lamp] >= standing.room) {
                return NO_ROOM;
            }
            seated[lamp]++;
            return TAUGHT + standing.hoursFor(book, facts);
        }

        /** The VARIABLES in the order of the reader's words. */
        private void gatherFacts(int learner, int lamp, int week) {
            int place = land.lampPlace[lamp];
            int speaks = land.tongues[notes.lampTeacher[lamp]];
            facts[0] = land.age[learner];
            facts[1] = speaks >> land.tongue[learner] & 1;
            facts[2] = notes.lampLearners[lamp];
            facts[3] = week;
            facts[4] = week == 0 ? 0 : Integer.bitCount(doneBehind(learner, week - 1));
            facts[5] = land.rainsIn(place, week) ? 1 : 0;
            facts[6] = land.shireOf[place];
        }

        int foretell(int learner, int week, int weeks, int given) {
            int here = cell(learner, week);
            System.arraycopy(hours, here * LESSONS, foretold, 0, LESSONS);
            int worth = Lessons.worthAt(land.age[learner], given);
            int gap = gaps[here];
            for (int w = 0; w < weeks; w++) {
                if (given > 0) {
                    lessons.learn(foretold, 0, worth);
                } else {
                    if (gap >= lessons.fade) {
                        lessons.forget(foretold, 0);
                    }
                    gap++;
                }
            }
            return lessons.doneIn(foretold, 0);
        }
    }

    /** The PROOFS; of the words only the letters of their SLIPS are kept. */
    private static final class Proofs {
        private static final int LONGEST = 8;
        private static final int SIDE = LONGEST + 1;

        private int many;
        private final int[] learnerOf = new int[MOST_PROOFS];
        private final int[] weekOf = new int[MOST_PROOFS];
        private final int[] slipsOf = new int[MOST_PROOFS];
        private final byte[] slipLetters = new byte[MOST_PROOFS * LONGEST];
        private final int[] told = new int[LONGEST];
        private final int[] written = new int[LONGEST];
        private final int[] fewest = new int[SIDE * SIDE];

        boolean isProof(int proof) {
            return within(proof, 0, many - 1);
        }

        /** How many letters a word has; 0 if it can't be a word. */
        static int lengthOf(long word) {
            long rest = word;
            int length = 0;
            while (length < LONGEST && rest > 0) {
                if ((rest & 31) < 1 || (rest & 31) > LETTERS) {
                    return 0;
                }
                rest >>= 5;
                length++;
            }
            return rest == 0 ? length : 0;
        }

        private static int spell(long word, int[] row) {
            int length = lengthOf(word);
            long rest = word;
            for (int i = length - 1; i >= 0; i--) {
                row[i] = (int) (rest & 31) - 1;
                rest >>= 5;
            }
            return length;
        }

        int add(int learner, int week, long wordTold, long wordWritten) {
            int toldLength = spell(wordTold, told);
            int writtenLength = spell(wordWritten, written);
            learnerOf[many] = learner;
            weekOf[many] = week;
            slipsOf[many] = 0;
            measure(toldLength, writtenLength);
            walk(toldLength, writtenLength);
            return many++;
        }

        /** Fills in the fewest SLIPS between all ends of both words, the shortest first. */
        private void measure(int toldLength, int writtenLength) {
            for (int i = toldLength; i >= 0; i--) {
                for (int j = writtenLength; j >= 0; j--) {
                    int best = toldLength - i + writtenLength - j;
                    if (i < toldLength && j < writtenLength) {
                        best = Math.min(slipOf(i, j) + fewestAt(i + 1, j + 1),
                                1 + Math.min(fewestAt(i + 1, j), fewestAt(i, j + 1)));
                    }
                    fewest[i * SIDE + j] = best;
                }
            }
        }

        private int fewestAt(int i, int j) {
            return fewest[i * SIDE + j];
        }

        private int slipOf(int i, int j) {
            return told[i] == written[j] ? 0 : 1;
        }

        private void walk(int toldLength, int writtenLength) {
            int i = 0;
            int j = 0;
            for (int step = 0; step < 2 * LONGEST && (i < toldLength || j < writtenLength); step++) {
                int left = fewestAt(i, j);
                if (i < toldLength && j < writtenLength && left == slipOf(i, j) + fewestAt(i + 1, j + 1)) {
                    if (slipOf(i, j) == 1) {
                        slip(told[i]);
                    }
                    i++;
                    j++;
                } else if (i < toldLength && left == 1 + fewestAt(i + 1, j)) {
                    slip(told[i]);
                    i++;
                } else if (j < writtenLength) {
                    slip(written[j]);
                    j++;
                }
            }
        }

        private void slip(int letter) {
            if (slipsOf[many] < LONGEST) {
                slipLetters[many * LONGEST + slipsOf[many]] = (byte) letter;
                slipsOf[many]++;
            }
        }

        int countOwed(int proof, int lesson, Lessons lessons, int done) {
            if ((done >> lesson & 1) != 0) {
                return 0;
            }
            int sum = 0;
            for (int k = 0; k < slipsOf[proof]; k++) {
                if (lessons.firstFor(slipLetters[proof * LONGEST + k]) == lesson) {
                    sum++;
                }
            }
            return sum;
        }

        /** The latest PROOF of a LEARNER by a WEEK, or NONE. */
        int latestBy(int learner, int week) {
            int latest = NONE;
            for (int p = 0; p < many; p++) {
                boolean counts = learnerOf[p] == learner && weekOf[p] <= week;
                if (counts && (latest == NONE || weekOf[p] >= weekOf[latest])) {
                    latest = p;
                }
            }
            return latest;
        }
    }

    /** TEACHERS who are to be SENT, by sets of those who still wait: LAMPS are served as they were told. */
    private static final class Sending {
        /** Above every sum of ARRIVALS. */
        private static final int NEVER = 1000;

        private int many;
        private final int[] lamp = new int[MOST_SENT];
        private final int[] teacher = new int[MOST_SENT];
        private final int[] arrivalAt = new int[MOST_SENT * MOST_SENT];
        private final int[] latest = new int[1 << MOST_SENT];
        private final int[] sums = new int[1 << MOST_SENT];
        private int sentMany;
        private final int[] sentTo = new int[MOST_SENT];

        void begin(int asked) {
            many = asked;
        }

        void name(int k, int lampNumber, int teacherNumber) {
            lamp[k] = lampNumber;
            teacher[k] = teacherNumber;
        }

        void measure(Land land, Notes notes, int week) {
            for (int t = 0; t < many; t++) {
                land.travel(land.waitsAt[teacher[t]], week);
                for (int k = 0; k < many; k++) {
                    int reached = land.reached(land.lampPlace[lamp[k]]);
                    boolean can = reached != NONE && speaks(land, notes, teacher[t], lamp[k]);
                    arrivalAt[k * MOST_SENT + t] = can ? reached : NEVER;
                }
            }
        }

        private static boolean speaks(Land land, Notes notes, int who, int where) {
            int best = NONE;
            int most = 0;
            for (int tongue = 0; tongue < TONGUES; tongue++) {
                int speakers = 0;
                for (int learner = 0; learner < land.learners; learner++) {
                    if (notes.learnerLamp[learner] == where && land.tongue[learner] == tongue) {
                        speakers++;
                    }
                }
                if (speakers > most) {
                    best = tongue;
                    most = speakers;
                }
            }
            return best == NONE || (land.tongues[who] >> best & 1) != 0;
        }

        /** Finds BEST and keeps it; tells the latest ARRIVAL, or NONE if it can't be. */
        int choose() {
            int all = (1 << many) - 1;
            latest[0] = 0;
            sums[0] = 0;
            for (int set = 1; set <= all; set++) {
                latest[set] = leastLatest(set);
            }
            if (latest[all] >= NEVER) {
                return NONE;
            }
            for (int set = 1; set <= all; set++) {
                sums[set] = leastSum(set, latest[all]);
            }
            keep(all);
            return latest[all];
        }

        private int arrivalFor(int set, int t) {
            int k = many - Integer.bitCount(set);
            return arrivalAt[k * MOST_SENT + t];
        }

        private int leastLatest(int set) {
            int least = NEVER;
            for (int t = 0; t < many; t++) {
                if ((set >> t & 1) != 0) {
                    least = Math.min(least, Math.max(arrivalFor(set, t), latest[set & ~(1 << t)]));
                }
            }
            return least;
        }

        private int leastSum(int set, int bound) {
            int least = NEVER;
            for (int t = 0; t < many; t++) {
                if ((set >> t & 1) != 0 && arrivalFor(set, t) <= bound) {
                    least = Math.min(least, arrivalFor(set, t) + sums[set & ~(1 << t)]);
                }
            }
            return least;
        }

        private void keep(int all) {
            int set = all;
            for (int k = 0; k < many; k++) {
                int best = NONE;
                for (int t = 0; t < many; t++) {
                    boolean fits = (set >> t & 1) != 0 && arrivalFor(set, t) <= latest[all]
                            && arrivalFor(set, t) + sums[set & ~(1 << t)] == sums[set];
                    if (fits && (best == NONE || teacher[t] < teacher[best])) {
                        best = t;
                    }
                }
                if (best != NONE) {
                    sentTo[k] = teacher[best];
                    set &= ~(1 << best);
                }
            }
            sentMany = many;
        }
    }

    /** COUNTS by whole numbers: twenty times all drawings of 30 out of 60 still fit into 64 bits. */
    private static final class Draws {
        private static final int SIDE = MOST_COUNTED + 1;

        private final long[] choices = new long[SIDE * SIDE];

        Draws() {
            for (int n = 0; n < SIDE; n++) {
                choices[n * SIDE] = 1;
                for (int k = 1; k <= n; k++) {
                    choices[n * SIDE + k] = choices[(n - 1) * SIDE + k - 1] + choices[(n - 1) * SIDE + k];
                }
            }
        }

        private long choose(int n, int k) {
            return k < 0 || k > n ? 0 : choices[n * SIDE + k];
        }

        private boolean hasChance(int all, int readers, int drawn, int least, int greatest) {
            long sum = 0;
            for (int k = least; k <= greatest; k++) {
                sum += choose(readers, k) * choose(all - readers, drawn - k);
            }
            return 20 * sum > choose(all, drawn);
        }

        int low(int all, int drawn, int found) {
            int readers = 0;
            while (readers < all && !hasChance(all, readers, drawn, found, drawn)) {
                readers++;
            }
            return readers;
        }

        int high(int all, int drawn, int found) {
            int readers = all;
            while (readers > 0 && !hasChance(all, readers, drawn, 0, found)) {
                readers--;
            }
            return readers;
        }
    }
}
