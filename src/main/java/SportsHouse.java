import java.util.Arrays;

/**
 * A sports house: rules, fixtures, matches, standings, draws and officials.
 * The document's promises say what each call answers; a call that is refused changes nothing.
 */
public final class SportsHouse {
    public static final int NONE = -1, UNKNOWN = -2, OUTSIDE = -3, STATE = -4, ROOM = -5;

    private static final int LAST_DAY = 999;
    private static final int CLUBS = 12;
    private static final int STADIUMS = 12;
    private static final int COUNTRIES = 8;
    private static final int PERSONS = 200;
    private static final int SPANS = 300;
    private static final int OFFICIALS = 8;
    private static final int COMPETITIONS = 4;
    private static final int MATCHES = 400;
    private static final int ROWS = 3000;
    private static final int DEDUCTIONS = 50;
    private static final int TEXT = 400;

    // Where a competition keeps what its rules say, as rule() numbers it.
    private static final int SPORT = 0;
    private static final int WIN = 1;
    private static final int DRAW = 2;
    private static final int LOSS = 3;
    private static final int KEY_COUNT = 4;
    private static final int REDO = 5;
    private static final int LEGS = 6;
    private static final int EVERY = 7;
    private static final int REST = 8;
    private static final int FIELD = 9;
    private static final int SUBS = 10;
    private static final int TARGET = 11;
    private static final int WALKOVER = 12;
    private static final int CARDS = 13;
    private static final int RED = 14;
    private static final int SEED = 15;
    private static final int RULES = 16;
    private static final int KEYS = 7;

    private static final int FOOTBALL = 0;
    private static final int VOLLEYBALL = 1;
    private static final int TENNIS = 2;
    private static final int BASEBALL = 3;

    private static final int TOLD = 0;
    private static final int GOES_ON = 1;
    private static final int ENDED = 2;
    private static final int WALKED_OVER = 3;

    private static final int BENCH = 4;
    private static final int FIELD_MOST = 6;
    private static final int SHEET = FIELD_MOST + BENCH;

    private final RuleText text;
    private final Things things;
    private final Season season;
    private final Standings standings;
    private final Title title;
    private final Lots lots;
    private final Referees referees;

    public SportsHouse() {
        text = new RuleText();
        things = new Things();
        season = new Season(things);
        standings = new Standings(season);
        title = new Title(season, standings);
        lots = new Lots(things);
        referees = new Referees(season, things);
    }

    // ---- text

    public int sign(int c) {
        if (c != 10 && (c < 32 || c > 126)) {
            return OUTSIDE;
        }
        if (text.length >= TEXT) {
            return ROOM;
        }
        text.bytes[text.length] = c;
        text.length++;
        return text.length;
    }

    public int wipe() {
        int was = text.length;
        text.length = 0;
        return was;
    }

    public int competition() {
        if (season.competitionCount >= COMPETITIONS) {
            text.faultAt = NONE;
            return ROOM;
        }
        boolean right = text.read();
        text.length = 0;
        if (!right) {
            return -10 - text.faultKind;
        }
        int number = season.competitionCount;
        season.competitions[number] = new Competition(number, text.values.clone(), text.keys.clone());
        season.competitionCount++;
        return number;
    }

    public int fault() {
        return text.faultAt;
    }

    public int rule(int c, int what) {
        if (!isCompetition(c)) {
            return UNKNOWN;
        }
        if (what < 0 || what >= RULES + KEYS) {
            return OUTSIDE;
        }
        Competition contest = season.competitions[c];
        if (what < RULES) {
            return contest.rules[what];
        }
        int k = what - RULES;
        return k < contest.rules[KEY_COUNT] ? contest.keys[k] : NONE;
    }

    // ---- things

    public int club(int stadium, int country) {
        if (!isBelow(stadium, STADIUMS) || !isBelow(country, COUNTRIES)) {
            return OUTSIDE;
        }
        if (things.clubs >= CLUBS) {
            return ROOM;
        }
        int number = things.clubs;
        things.stadium[number] = stadium;
        things.country[number] = country;
        things.clubs++;
        return number;
    }

    public int person() {
        if (things.persons >= PERSONS) {
            return ROOM;
        }
        int number = things.persons;
        things.firstSpan[number] = NONE;
        things.persons++;
        return number;
    }

    public int register(int person, int club, int from, int to) {
        if (!isPerson(person) || !isClub(club)) {
            return UNKNOWN;
        }
        if (!isDay(from) || !isDay(to) || to < from) {
            return OUTSIDE;
        }
        if (things.isRegisteredWithin(person, from, to)) {
            return STATE;
        }
        if (things.spans >= SPANS) {
            return ROOM;
        }
        things.addSpan(person, club, from, to);
        return things.spans;
    }

    public int official(int home, int country) {
        if (!isBelow(home, STADIUMS) || !isBelow(country, COUNTRIES)) {
            return OUTSIDE;
        }
        if (things.officials >= OFFICIALS) {
            return ROOM;
        }
        int number = things.officials;
        things.officialHome[number] = home;
        things.officialCountry[number] = country;
        things.officials++;
        return number;
    }

    public int day(int d) {
        if (!isDay(d) || d <= things.today) {
            return OUTSIDE;
        }
        int was = things.today;
        things.today = d;
        return was;
    }

    // ---- fixtures

    public int enter(int c, int club) {
        if (!isCompetition(c) || !isClub(club)) {
            return UNKNOWN;
        }
        Competition contest = season.competitions[c];
        if (contest.planned || contest.seat[club] != NONE) {
            return STATE;
        }
        contest.seat[club] = contest.entered;
        contest.clubs[contest.entered] = club;
        contest.entered++;
        return contest.entered;
    }

    public int plan(int c, int first) {
        if (!isCompetition(c)) {
            return UNKNOWN;
        }
        if (!isDay(first) || first < things.today) {
            return OUTSIDE;
        }
        Competition contest = season.competitions[c];
        if (contest.planned || contest.entered < 2 || first + contest.daysFromFirstToLast() > LAST_DAY) {
            return STATE;
        }
        if (season.matchCount + contest.fixtureCount() > MATCHES) {
            return ROOM;
        }
        season.schedule(contest, first);
        return contest.firstMatch;
    }

    public int match(int m, int what) {
        if (!isMatch(m)) {
            return UNKNOWN;
        }
        Match fixture = season.matches[m];
        switch (what) {
            case 0: return fixture.contest.number;
            case 1: return fixture.round;
            case 2: return fixture.home;
            case 3: return fixture.away;
            case 4: return fixture.date;
            case 5: return fixture.phaseOfLife();
            case 6: return fixture.scoreOf(0);
            case 7: return fixture.scoreOf(1);
            default: return OUTSIDE;
        }
    }

    public int breaks(int c, int club) {
        if (!isCompetition(c) || !isClub(club)) {
            return UNKNOWN;
        }
        Competition contest = season.competitions[c];
        if (contest.seat[club] == NONE || !contest.planned) {
            return STATE;
        }
        return season.countBreaks(contest, club);
    }

    public int postpone(int m, int d) {
        if (!isMatch(m)) {
            return UNKNOWN;
        }
        if (!isDay(d) || d <= things.today) {
            return OUTSIDE;
        }
        Match fixture = season.matches[m];
        if (fixture.phaseOfLife() != TOLD || fixture.date == d) {
            return STATE;
        }
        return season.putOff(fixture, d);
    }

    public int moved(int k) {
        return isBelow(k, season.movedCount) ? season.movedMatches[k] : NONE;
    }

    public int deduct(int c, int club, int points) {
        if (!isCompetition(c) || !isClub(club)) {
            return UNKNOWN;
        }
        if (points < 1 || points > 99) {
            return OUTSIDE;
        }
        if (season.competitions[c].seat[club] == NONE) {
            return STATE;
        }
        if (season.deductions >= DEDUCTIONS) {
            return ROOM;
        }
        season.addDeduction(c, club, points);
        return season.deductions;
    }

    // ---- matches

    public int eligible(int person, int m, int side) {
        if (!isPerson(person) || !isMatch(m)) {
            return UNKNOWN;
        }
        if (!isSide(side)) {
            return OUTSIDE;
        }
        return season.whyNot(person, season.matches[m], side);
    }

    public int lineUp(int person, int m, int side) {
        if (!isPerson(person) || !isMatch(m)) {
            return UNKNOWN;
        }
        if (!isSide(side)) {
            return OUTSIDE;
        }
        Match fixture = season.matches[m];
        if (fixture.phaseOfLife() != TOLD) {
            return STATE;
        }
        if (fixture.listed[side] >= fixture.contest.rules[FIELD] + BENCH) {
            return ROOM;
        }
        int why = season.whyNot(person, fixture, side);
        if (why != 0) {
            return -10 - why;
        }
        fixture.sheet[side * SHEET + fixture.listed[side]] = person;
        fixture.listed[side]++;
        return fixture.listed[side];
    }

    public int start(int m) {
        if (!isMatch(m)) {
            return UNKNOWN;
        }
        Match fixture = season.matches[m];
        if (fixture.phaseOfLife() != TOLD || fixture.date != things.today || !fixture.hasEnoughListed()) {
            return STATE;
        }
        fixture.play = new Play(fixture.contest.rules, fixture.sheet, fixture.listed);
        fixture.play.backToBeginning();
        return 1;
    }

    public int walkOver(int m, int side) {
        if (!isMatch(m)) {
            return UNKNOWN;
        }
        if (!isSide(side)) {
            return OUTSIDE;
        }
        Match fixture = season.matches[m];
        if (fixture.phaseOfLife() != TOLD || fixture.date > things.today) {
            return STATE;
        }
        fixture.absent = side;
        return 1;
    }

    public int event(int m, int kind, int side, int person, int other) {
        if (!isMatch(m)) {
            return UNKNOWN;
        }
        Play play = season.matches[m].play;
        if (play == null) {
            return -11;
        }
        int law = play.brokenLaw(kind, side, person, other);
        if (law != 0) {
            return -10 - law;
        }
        if (season.rowCount >= ROWS) {
            return ROOM;
        }
        season.rowCount++;
        play.carryOut(kind, side, person, other);
        play.keepRow(kind, side, person, other);
        return play.logged;
    }

    public int review(int m, int i, int kind, int side, int person, int other) {
        if (!isMatch(m)) {
            return UNKNOWN;
        }
        Play play = season.matches[m].play;
        if (play == null || !isBelow(i, play.logged)) {
            return UNKNOWN;
        }
        if (kind == NONE) {
            play.takeOut(i);
            return play.runAnew();
        }
        if (!play.isFormed(kind, side)) {
            return -12;
        }
        if (!play.isBounded(kind, other)) {
            return -17;
        }
        if (play.isSameRow(i, kind, side, person, other)) {
            return -20;
        }
        play.putInPlace(i, kind, side, person, other);
        return play.runAnew();
    }

    public int rows(int m, int what) {
        if (!isMatch(m)) {
            return UNKNOWN;
        }
        if (what < 0 || what > 1) {
            return OUTSIDE;
        }
        Play play = season.matches[m].play;
        if (play == null) {
            return 0;
        }
        return what == 0 ? play.logged : play.asides;
    }

    public int row(int m, int i, int what) {
        if (!isMatch(m)) {
            return UNKNOWN;
        }
        Play play = season.matches[m].play;
        if (play == null) {
            return UNKNOWN;
        }
        boolean kept = isBelow(i, play.logged);
        boolean aside = isBelow(i, play.asides);
        if (what < 0 || what > 7) {
            // No list is asked for, so the row is unknown only if neither has it.
            return kept || aside ? OUTSIDE : UNKNOWN;
        }
        if (what < 4) {
            return kept ? play.log[i * 4 + what] : UNKNOWN;
        }
        return aside ? play.aside[i * 4 + what - 4] : UNKNOWN;
    }

    public int state(int m, int what) {
        if (!isMatch(m)) {
            return UNKNOWN;
        }
        if (what < 0 || what > 7) {
            return OUTSIDE;
        }
        Play play = season.matches[m].play;
        if (play == null) {
            return STATE;
        }
        switch (what) {
            case 0: return play.phase;
            case 1:
            case 2: return play.points[what - 1];
            case 3:
            case 4: return play.games[what - 3];
            case 5: return play.server;
            default: return play.changes[what - 6];
        }
    }

    public int onField(int m, int side, int k) {
        if (!isMatch(m)) {
            return UNKNOWN;
        }
        if (!isSide(side)) {
            return OUTSIDE;
        }
        Play play = season.matches[m].play;
        if (play == null || !isBelow(k, play.fielded[side])) {
            return NONE;
        }
        return play.personAt(side, k);
    }

    // ---- standings

    public int table(int c, int d, int club, int what) {
        if (!isCompetition(c) || !isClub(club)) {
            return UNKNOWN;
        }
        if (!isDay(d) || what < 0 || what > 7) {
            return OUTSIDE;
        }
        Competition contest = season.competitions[c];
        int seat = contest.seat[club];
        if (seat == NONE) {
            return STATE;
        }
        standings.tally(contest, d);
        standings.rank();
        return standings.lines[seat * Standings.WIDTH + what];
    }

    public int standing(int c, int d, int k) {
        if (!isCompetition(c)) {
            return UNKNOWN;
        }
        if (!isDay(d)) {
            return OUTSIDE;
        }
        Competition contest = season.competitions[c];
        if (!isBelow(k, contest.entered)) {
            return NONE;
        }
        standings.tally(contest, d);
        standings.rank();
        return contest.clubs[standings.order[k]];
    }

    public int parted(int c, int d, int k) {
        if (!isCompetition(c)) {
            return UNKNOWN;
        }
        if (!isDay(d)) {
            return OUTSIDE;
        }
        Competition contest = season.competitions[c];
        if (!isBelow(k, contest.entered - 1)) {
            return NONE;
        }
        standings.tally(contest, d);
        standings.rank();
        return standings.partedBy[k];
    }

    public int can(int c, int club) {
        if (!isCompetition(c) || !isClub(club)) {
            return UNKNOWN;
        }
        Competition contest = season.competitions[c];
        if (contest.seat[club] == NONE || !contest.planned) {
            return STATE;
        }
        return title.ask(contest, contest.seat[club]);
    }

    public int witness(int m) {
        if (!isMatch(m)) {
            return UNKNOWN;
        }
        return title.answer == 1 ? title.results[m] : NONE;
    }

    public int cut() {
        return title.cutBits;
    }

    public int firsts(int c, int club) {
        if (!isCompetition(c) || !isClub(club)) {
            return UNKNOWN;
        }
        Competition contest = season.competitions[c];
        if (contest.seat[club] == NONE || !contest.planned) {
            return STATE;
        }
        return title.countFirsts(contest, contest.seat[club]);
    }

    // ---- draws

    public int drawing(int groups, int limit) {
        if (groups < 1 || groups > Lots.GROUPS || limit < 1 || limit > 3) {
            return OUTSIDE;
        }
        lots.openNew(groups, limit);
        return 1;
    }

    public int pot(int club, int p) {
        if (!isClub(club)) {
            return UNKNOWN;
        }
        if (p < 0 || p >= Lots.POTS) {
            return OUTSIDE;
        }
        if (lots.groups == 0 || lots.potOf[club] != NONE || lots.drawnCount > 0) {
            return STATE;
        }
        if (lots.potSize[p] >= lots.groups) {
            return ROOM;
        }
        lots.putIn(club, p);
        return lots.potSize[p];
    }

    public int ways() {
        if (lots.groups == 0) {
            return STATE;
        }
        lots.refresh();
        return lots.total;
    }

    public int chance(int club, int group) {
        if (!isClub(club) || lots.groups == 0 || lots.potOf[club] == NONE) {
            return UNKNOWN;
        }
        if (!isBelow(group, lots.groups)) {
            return OUTSIDE;
        }
        lots.refresh();
        return lots.waysWith(club, group);
    }

    public int ball(int seed, boolean first) {
        if (lots.groups == 0 || lots.drawnCount >= lots.clubCount) {
            return STATE;
        }
        lots.refresh();
        if (lots.total == 0) {
            return STATE;
        }
        if (first) {
            lots.random = seed;
        }
        int club = lots.takeClub();
        lots.place(club);
        return 8 * club + lots.groupOf[club];
    }

    public int drawn(int club) {
        if (!isClub(club)) {
            return UNKNOWN;
        }
        return lots.groups == 0 ? NONE : lots.groupOf[club];
    }

    // ---- officials

    public int assign(int d) {
        if (!isDay(d)) {
            return OUTSIDE;
        }
        return referees.share(d);
    }

    public int officialOf(int m) {
        return isMatch(m) ? season.matches[m].referee : UNKNOWN;
    }

    public int count(int what) {
        switch (what) {
            case 0: return things.clubs;
            case 1: return things.persons;
            case 2: return things.spans;
            case 3: return things.officials;
            case 4: return season.competitionCount;
            case 5: return season.matchCount;
            case 6: return season.rowCount;
            case 7: return things.today;
            default: return OUTSIDE;
        }
    }

    private boolean isCompetition(int c) {
        return isBelow(c, season.competitionCount);
    }

    private boolean isClub(int number) {
        return isBelow(number, things.clubs);
    }

    private boolean isPerson(int number) {
        return isBelow(number, things.persons);
    }

    private boolean isMatch(int m) {
        return isBelow(m, season.matchCount);
    }

    private static boolean isDay(int d) {
        return d >= 0 && d <= LAST_DAY;
    }

    private static boolean isSide(int side) {
        return side == 0 || side == 1;
    }

    private static boolean isBelow(int number, int bound) {
        return number >= 0 && number < bound;
    }

    /** The text that is being written, and its reading as rules. */
    private static final class RuleText {
        private static final int END = 0;
        private static final int WORD = 1;
        private static final int NUMBER = 2;
        private static final int SEMICOLON = 3;
        private static final int COMMA = 4;
        private static final int WRONG = 5;

        private static final int WORD_MOST = 12;
        private static final int NUMBER_MOST = 3;

        private static final String STATEMENTS =
            "sport;points;order;redo;legs;every;rest;field;subs;target;walkover;cards;red;seed;";
        private static final String SPORTS = "football;volleyball;tennis;baseball;";
        private static final String KEY_WORDS = "diff;scored;wins;away;head;fair;lots;";

        private static final int SAYS_SPORT = 0;
        private static final int SAYS_POINTS = 1;
        private static final int SAYS_ORDER = 2;
        private static final int SAYS_REDO = 3;
        // Behind the points, that are three, a statement's rule comes two places later.
        private static final int LATER = 2;

        private static final int[] AT_FIRST = {0, 3, 1, 0, 2, 0, 1, 7, 1, 2, 2, 3, 3, 3, 1, 0};
        private static final int[] LEAST = {0, 0, 0, 0, 0, 0, 1, 1, 1, 1, 0, 2, 1, 1, 1, 0};
        private static final int[] MOST = {3, 9, 9, 9, 7, 1, 4, 30, 9, 6, 5, 25, 9, 9, 9, 999};

        final int[] bytes = new int[TEXT];
        int length;
        int faultKind;
        int faultAt = NONE;
        final int[] values = new int[RULES];
        final int[] keys = new int[KEYS];

        private int toldBits;
        private int tokenKind;
        private int tokenStart;
        private int tokenEnd;

        /** Reads the whole text; false: it has a fault. */
        boolean read() {
            faultKind = 0;
            faultAt = NONE;
            toldBits = 0;
            tokenEnd = 0;
            for (int k = 0; k < RULES; k++) {
                values[k] = AT_FIRST[k];
            }
            Arrays.fill(keys, NONE);
            keys[0] = 0;
            keys[1] = 1;
            nextToken();
            for (int steps = 0; tokenKind != END && steps <= TEXT; steps++) {
                if (!readStatement()) {
                    return false;
                }
                nextToken();
            }
            return true;
        }

        private boolean readStatement() {
            int says = wordOf(STATEMENTS);
            if (says == NONE) {
                return false;
            }
            if ((toldBits >> says & 1) != 0) {
                return fail(5);
            }
            toldBits |= 1 << says;
            boolean right;
            switch (says) {
                case SAYS_SPORT: right = readSport(); break;
                case SAYS_POINTS: right = readPoints(); break;
                case SAYS_ORDER: return readOrder();
                case SAYS_REDO: values[REDO] = 1; right = true; break;
                default: right = readRule(says + LATER, MOST[says + LATER]); break;
            }
            if (!right) {
                return false;
            }
            nextToken();
            return isOfKind(SEMICOLON);
        }

        private boolean readSport() {
            nextToken();
            int sport = wordOf(SPORTS);
            if (sport == NONE) {
                return false;
            }
            values[SPORT] = sport;
            return true;
        }

        private boolean readPoints() {
            return readRule(WIN, MOST[WIN]) && readRule(DRAW, values[WIN]) && readRule(LOSS, values[DRAW]);
        }

        private boolean readRule(int slot, int most) {
            nextToken();
            if (!isOfKind(NUMBER)) {
                return false;
            }
            int number = 0;
            for (int k = tokenStart; k < tokenEnd; k++) {
                number = number * 10 + bytes[k] - '0';
            }
            if (number < LEAST[slot] || number > most) {
                return fail(4);
            }
            values[slot] = number;
            return true;
        }

        /** Reads the keys and the semicolon behind them. */
        private boolean readOrder() {
            int keyBits = 0;
            // Each key may stand once, so what is longer has a fault at the eighth at the latest.
            for (int k = 0; k <= KEYS; k++) {
                nextToken();
                int key = wordOf(KEY_WORDS);
                if (key == NONE) {
                    return false;
                }
                if ((keyBits >> key & 1) != 0 || k >= KEYS) {
                    return fail(5);
                }
                keyBits |= 1 << key;
                keys[k] = key;
                values[KEY_COUNT] = k + 1;
                nextToken();
                if (tokenKind != COMMA) {
                    return isOfKind(SEMICOLON);
                }
            }
            return false;
        }

        private boolean fail(int kind) {
            faultKind = kind;
            faultAt = tokenStart;
            return false;
        }

        private boolean isOfKind(int kind) {
            if (tokenKind == WRONG) {
                return fail(1);
            }
            return tokenKind == kind || fail(2);
        }

        /** The place of the token in a list of words that each end with a semicolon; NONE: a fault is noted. */
        private int wordOf(String list) {
            if (!isOfKind(WORD)) {
                return NONE;
            }
            int place = 0;
            int same = 0;
            for (int k = 0; k < list.length(); k++) {
                char c = list.charAt(k);
                if (c == ';') {
                    if (same == tokenEnd - tokenStart) {
                        return place;
                    }
                    place++;
                    same = 0;
                } else if (same >= 0 && tokenStart + same < tokenEnd && bytes[tokenStart + same] == c) {
                    same++;
                } else {
                    same = NONE;
                }
            }
            fail(3);
            return NONE;
        }

        private void nextToken() {
            int at = tokenEnd;
            while (at < length && (bytes[at] == 10 || bytes[at] == ' ')) {
                at++;
            }
            tokenStart = at;
            tokenEnd = at;
            if (at >= length) {
                tokenKind = END;
            } else if (isBetween(at, 'a', 'z')) {
                takeRun('a', 'z', WORD, WORD_MOST);
            } else if (isBetween(at, '0', '9')) {
                takeRun('0', '9', NUMBER, NUMBER_MOST);
            } else {
                tokenEnd = at + 1;
                tokenKind = bytes[at] == ';' ? SEMICOLON : bytes[at] == ',' ? COMMA : WRONG;
            }
        }

        private void takeRun(int low, int high, int kind, int most) {
            while (tokenEnd < length && isBetween(tokenEnd, low, high)) {
                tokenEnd++;
            }
            tokenKind = tokenEnd - tokenStart > most ? WRONG : kind;
        }

        private boolean isBetween(int at, int low, int high) {
            return bytes[at] >= low && bytes[at] <= high;
        }
    }

    /** Clubs, persons with their spans, officials, and TODAY. */
    private static final class Things {
        final int[] stadium = new int[CLUBS];
        final int[] country = new int[CLUBS];
        int clubs;
        int persons;
        final int[] firstSpan = new int[PERSONS];
        int spans;
        private final int[] spanClub = new int[SPANS];
        private final int[] spanFrom = new int[SPANS];
        private final int[] spanTo = new int[SPANS];
        private final int[] nextSpan = new int[SPANS];
        final int[] officialHome = new int[OFFICIALS];
        final int[] officialCountry = new int[OFFICIALS];
        int officials;
        int today;

        boolean isRegisteredWithin(int person, int from, int to) {
            int s = firstSpan[person];
            for (int steps = 0; s != NONE && steps < SPANS; steps++) {
                if (spanFrom[s] <= to && from <= spanTo[s]) {
                    return true;
                }
                s = nextSpan[s];
            }
            return false;
        }

        void addSpan(int person, int club, int from, int to) {
            spanClub[spans] = club;
            spanFrom[spans] = from;
            spanTo[spans] = to;
            nextSpan[spans] = firstSpan[person];
            firstSpan[person] = spans;
            spans++;
        }

        int clubOn(int person, int date) {
            int s = firstSpan[person];
            for (int steps = 0; s != NONE && steps < SPANS; steps++) {
                if (spanFrom[s] <= date && date <= spanTo[s]) {
                    return spanClub[s];
                }
                s = nextSpan[s];
            }
            return NONE;
        }
    }

    /** A competition: its rules and the clubs that entered it, each at a seat. */
    private static final class Competition {
        final int number;
        final int[] rules;
        final int[] keys;
        final int[] clubs = new int[CLUBS];
        final int[] seat = new int[CLUBS];
        int entered;
        boolean planned;
        int firstMatch;
        int matchCount;

        Competition(int number, int[] rules, int[] keys) {
            this.number = number;
            this.rules = rules;
            this.keys = keys;
            Arrays.fill(seat, NONE);
        }

        int placeCount() {
            return entered + (entered & 1);
        }

        int daysFromFirstToLast() {
            int rounds = (placeCount() - 1) * rules[LEGS];
            return (rounds - 1) * rules[EVERY];
        }

        int fixtureCount() {
            return entered * (entered - 1) / 2 * rules[LEGS];
        }
    }

    /** A match: when and between whom, its sheets, and its play once it has begun. */
    private static final class Match {
        final Competition contest;
        final int number;
        final int round;
        final int home;
        final int away;
        int date;
        int absent = NONE;
        int referee = NONE;
        final int[] sheet = new int[2 * SHEET];
        final int[] listed = new int[2];
        Play play;

        Match(Competition contest, int number, int round, int home, int away, int date) {
            this.contest = contest;
            this.number = number;
            this.round = round;
            this.home = home;
            this.away = away;
            this.date = date;
        }

        int phaseOfLife() {
            if (absent != NONE) {
                return WALKED_OVER;
            }
            if (play == null) {
                return TOLD;
            }
            return play.ended ? ENDED : GOES_ON;
        }

        boolean isDecided() {
            return phaseOfLife() >= ENDED;
        }

        int scoreOf(int side) {
            if (absent != NONE) {
                return side == absent ? 0 : contest.rules[WALKOVER];
            }
            return play == null ? 0 : play.score[side];
        }

        boolean has(int club) {
            return home == club || away == club;
        }

        boolean hasEnoughListed() {
            return listed[0] >= contest.rules[FIELD] && listed[1] >= contest.rules[FIELD];
        }

        int rest() {
            return contest.rules[REST];
        }

        /** Where a person is on the sheets, NONE: on neither. */
        int placeOf(int person) {
            for (int side = 0; side < 2; side++) {
                for (int k = 0; k < listed[side]; k++) {
                    if (sheet[side * SHEET + k] == person) {
                        return side * SHEET + k;
                    }
                }
            }
            return NONE;
        }
    }

    /** The play of a match, of any sport, and the rows that it is run by. */
    private static final class Play {
        private static final int ON_BENCH = 0;
        private static final int ON_FIELD = 1;
        private static final int OFF = 2;
        private static final int SENT_OFF = 3;

        private static final int GOAL = 1;
        private static final int OWN_GOAL = 2;
        private static final int YELLOW = 3;
        private static final int SENDING_OFF = 4;
        private static final int SUBSTITUTION = 5;
        private static final int RETIRED = 6;
        private static final int HIT = 1;
        private static final int BALL = 2;
        private static final int STRIKE = 3;
        private static final int EXTRA_INNINGS = 20;

        // In baseball the points are balls and strikes, the games outs and bases.
        private static final int OUTS = 0;
        private static final int BASES = 1;

        private final int[] rules;
        private final int[] sheet;
        private final int[] listed;
        boolean ended;
        int phase;
        int server;
        final int[] points = new int[2];
        final int[] games = new int[2];
        final int[] score = new int[2];
        final int[] changes = new int[2];
        final int[] fielded = new int[2];
        private final int[] field = new int[2 * FIELD_MOST];
        private final int[] role = new int[2 * SHEET];
        final int[] yellows = new int[2 * SHEET];
        int[] log = new int[32];
        int logged;
        int[] aside = new int[16];
        int asides;

        Play(int[] rules, int[] sheet, int[] listed) {
            this.rules = rules;
            this.sheet = sheet;
            this.listed = listed;
        }

        void backToBeginning() {
            ended = false;
            phase = 0;
            server = rules[SPORT] == BASEBALL ? 1 : 0;
            Arrays.fill(points, 0);
            Arrays.fill(games, 0);
            Arrays.fill(score, 0);
            Arrays.fill(changes, 0);
            Arrays.fill(role, ON_BENCH);
            Arrays.fill(yellows, 0);
            for (int side = 0; side < 2; side++) {
                fielded[side] = rules[FIELD];
                for (int k = 0; k < rules[FIELD]; k++) {
                    field[side * FIELD_MOST + k] = side * SHEET + k;
                    role[side * SHEET + k] = ON_FIELD;
                }
            }
        }

        int personAt(int side, int k) {
            return sheet[field[side * FIELD_MOST + k]];
        }

        boolean isSentOff(int place) {
            return role[place] == SENT_OFF;
        }

        /** The first law that an event would break now, 0: none. */
        int brokenLaw(int kind, int side, int person, int other) {
            if (ended) {
                return 1;
            }
            if (!isFormed(kind, side)) {
                return 2;
            }
            if (!isAllowed(kind, side)) {
                return 3;
            }
            if (needsPerson(kind) && fieldPlace(side, person) == NONE) {
                return 4;
            }
            if (kind == SUBSTITUTION) {
                if (benchPlace(side, other) == NONE) {
                    return 5;
                }
                if (changes[side] >= rules[SUBS]) {
                    return 6;
                }
            }
            return isBounded(kind, other) ? 0 : 7;
        }

        /** Law 2, which an event keeps or breaks by itself. */
        boolean isFormed(int kind, int side) {
            boolean known;
            switch (rules[SPORT]) {
                case FOOTBALL: known = kind >= 0 && kind <= SUBSTITUTION; break;
                case VOLLEYBALL: known = kind == GOAL || kind == SUBSTITUTION; break;
                case TENNIS: known = kind == GOAL || kind == RETIRED; break;
                default: known = kind >= HIT && kind <= 4; break;
            }
            return known && (kind == 0 || isSide(side));
        }

        /** Law 7, which an event keeps or breaks by itself. */
        boolean isBounded(int kind, int other) {
            return rules[SPORT] != BASEBALL || kind != HIT || other >= 1 && other <= 4;
        }

        private boolean isAllowed(int kind, int side) {
            if (rules[SPORT] == FOOTBALL) {
                return phase != 1 || kind != GOAL && kind != OWN_GOAL;
            }
            return rules[SPORT] != BASEBALL || side == server;
        }

        private boolean needsPerson(int kind) {
            return kind == SUBSTITUTION || rules[SPORT] == FOOTBALL && kind != 0;
        }

        /** Where a person stands in the order of a side's field, NONE: it does not. */
        private int fieldPlace(int side, int person) {
            for (int k = 0; k < fielded[side]; k++) {
                if (personAt(side, k) == person) {
                    return k;
                }
            }
            return NONE;
        }

        private int benchPlace(int side, int person) {
            for (int k = 0; k < listed[side]; k++) {
                int place = side * SHEET + k;
                if (sheet[place] == person && role[place] == ON_BENCH) {
                    return place;
                }
            }
            return NONE;
        }

        /** Does what an event that breaks no law does. */
        void carryOut(int kind, int side, int person, int other) {
            if (kind == SUBSTITUTION) {
                substitute(side, person, other);
                return;
            }
            switch (rules[SPORT]) {
                case FOOTBALL: playFootball(kind, side, person); break;
                case VOLLEYBALL: playVolleyball(side); break;
                case TENNIS: playTennis(kind, side); break;
                default: playBaseball(kind, side, other); break;
            }
        }

        private void substitute(int side, int person, int other) {
            int k = fieldPlace(side, person);
            int coming = benchPlace(side, other);
            if (k == NONE || coming == NONE) {
                return;
            }
            role[field[side * FIELD_MOST + k]] = OFF;
            role[coming] = ON_FIELD;
            field[side * FIELD_MOST + k] = coming;
            changes[side]++;
        }

        private void playFootball(int kind, int side, int person) {
            switch (kind) {
                case GOAL: score[side]++; break;
                case OWN_GOAL: score[1 - side]++; break;
                case YELLOW: showYellow(side, fieldPlace(side, person)); break;
                case SENDING_OFF: sendOff(side, fieldPlace(side, person)); break;
                default:
                    phase++;
                    ended = phase == 3;
                    break;
            }
        }

        private void showYellow(int side, int k) {
            if (k == NONE) {
                return;
            }
            int place = field[side * FIELD_MOST + k];
            yellows[place]++;
            if (yellows[place] == 2) {
                sendOff(side, k);
            }
        }

        private void sendOff(int side, int k) {
            if (k == NONE) {
                return;
            }
            role[field[side * FIELD_MOST + k]] = SENT_OFF;
            closeGap(side, k);
            fielded[side]--;
            if (2 * fielded[side] < rules[FIELD]) {
                ended = true;
                score[side] = 0;
                score[1 - side] = rules[WALKOVER];
            }
        }

        /** Those behind k in a side's field go one place to the front. */
        private void closeGap(int side, int k) {
            for (int j = k + 1; j < fielded[side]; j++) {
                field[side * FIELD_MOST + j - 1] = field[side * FIELD_MOST + j];
            }
        }

        private void playVolleyball(int side) {
            if (server != side) {
                rotate(side);
            }
            server = side;
            points[side]++;
            int aim = phase == 4 ? (3 * rules[TARGET] + 4) / 5 : rules[TARGET];
            if (!isWon(points, side, aim)) {
                return;
            }
            Arrays.fill(points, 0);
            score[side]++;
            if (score[side] == 3) {
                ended = true;
                return;
            }
            phase++;
            server = phase & 1;
        }

        private void rotate(int side) {
            int first = field[side * FIELD_MOST];
            closeGap(side, 0);
            field[side * FIELD_MOST + fielded[side] - 1] = first;
        }

        private static boolean isWon(int[] counts, int side, int aim) {
            return counts[side] >= aim && counts[side] - counts[1 - side] >= 2;
        }

        private void playTennis(int kind, int side) {
            if (kind == RETIRED) {
                score[1 - side] = 2;
                ended = true;
                return;
            }
            int target = rules[TARGET];
            points[side]++;
            int aim = games[0] == target && games[1] == target ? 7 : 4;
            if (!isWon(points, side, aim)) {
                return;
            }
            Arrays.fill(points, 0);
            games[side]++;
            if (isWon(games, side, target) || games[side] > target) {
                Arrays.fill(games, 0);
                score[side]++;
                if (score[side] == 2) {
                    ended = true;
                    return;
                }
                phase++;
            }
            server = 1 - server;
        }

        private void playBaseball(int kind, int side, int other) {
            switch (kind) {
                case HIT:
                    hit(side, other);
                    break;
                case BALL:
                    points[0]++;
                    if (points[0] == 4) {
                        walk(side);
                    }
                    break;
                case STRIKE:
                    points[1]++;
                    if (points[1] == 3) {
                        countOut();
                    }
                    break;
                default:
                    countOut();
                    break;
            }
        }

        private void hit(int side, int bases) {
            int after = games[BASES] << bases | 1 << bases - 1;
            games[BASES] = after & 7;
            goOnBase(side, Integer.bitCount(after >> 3));
        }

        private void walk(int side) {
            int on = games[BASES];
            games[BASES] = (on & 1) == 0 ? on | 1 : (on & 2) == 0 ? on | 2 : 7;
            goOnBase(side, on == 7 ? 1 : 0);
        }

        private void goOnBase(int side, int runs) {
            Arrays.fill(points, 0);
            score[side] += runs;
            if (isLastInning() && side == 0 && score[0] > score[1]) {
                ended = true;
            }
        }

        private boolean isLastInning() {
            return phase >= rules[TARGET] - 1;
        }

        private void countOut() {
            Arrays.fill(points, 0);
            games[OUTS]++;
            if (games[OUTS] == 3) {
                Arrays.fill(games, 0);
                endHalf();
            }
        }

        private void endHalf() {
            if (server == 1) {
                if (isLastInning() && score[0] > score[1]) {
                    ended = true;
                } else {
                    server = 0;
                }
                return;
            }
            boolean differ = score[0] != score[1];
            if (isLastInning() && differ || phase + 1 == rules[TARGET] + EXTRA_INNINGS) {
                ended = true;
                return;
            }
            phase++;
            server = 1;
        }

        void keepRow(int kind, int side, int person, int other) {
            if (logged * 4 + 4 > log.length) {
                log = Arrays.copyOf(log, log.length * 2);
            }
            writeRow(log, logged, kind, side, person, other);
            logged++;
        }

        private void putAside(int kind, int side, int person, int other) {
            if (asides * 4 + 4 > aside.length) {
                aside = Arrays.copyOf(aside, aside.length * 2);
            }
            writeRow(aside, asides, kind, side, person, other);
            asides++;
        }

        private static void writeRow(int[] rows, int i, int kind, int side, int person, int other) {
            rows[i * 4] = kind;
            rows[i * 4 + 1] = side;
            rows[i * 4 + 2] = person;
            rows[i * 4 + 3] = other;
        }

        boolean isSameRow(int i, int kind, int side, int person, int other) {
            return log[i * 4] == kind && log[i * 4 + 1] == side
                && log[i * 4 + 2] == person && log[i * 4 + 3] == other;
        }

        void takeOut(int i) {
            for (int k = i * 4 + 4; k < logged * 4; k++) {
                log[k - 4] = log[k];
            }
            logged--;
        }

        void putInPlace(int i, int kind, int side, int person, int other) {
            writeRow(log, i, kind, side, person, other);
        }

        /** Runs all rows from the beginning: how many are put aside by it. */
        int runAnew() {
            int rows = logged;
            int before = asides;
            logged = 0;
            backToBeginning();
            for (int i = 0; i < rows; i++) {
                int kind = log[i * 4];
                int side = log[i * 4 + 1];
                int person = log[i * 4 + 2];
                int other = log[i * 4 + 3];
                if (brokenLaw(kind, side, person, other) == 0) {
                    carryOut(kind, side, person, other);
                    keepRow(kind, side, person, other);
                } else {
                    putAside(kind, side, person, other);
                }
            }
            return asides - before;
        }
    }

    /** All competitions and matches, what was deducted, and the bans. */
    private static final class Season {
        private final Things things;
        final Competition[] competitions = new Competition[COMPETITIONS];
        int competitionCount;
        final Match[] matches = new Match[MATCHES];
        int matchCount;
        int rowCount;
        int deductions;
        private final int[] deductedIn = new int[DEDUCTIONS];
        private final int[] deductedFrom = new int[DEDUCTIONS];
        private final int[] deductedPoints = new int[DEDUCTIONS];
        private final int[] deductedOn = new int[DEDUCTIONS];
        final int[] movedMatches = new int[MATCHES];
        int movedCount;
        private final int[] listed = new int[MATCHES];
        private final int[] datesBefore = new int[MATCHES];
        private final int[] blocked = new int[LAST_DAY + 1];

        Season(Things things) {
            this.things = things;
        }

        void schedule(Competition contest, int first) {
            contest.planned = true;
            contest.firstMatch = matchCount;
            int rounds = contest.placeCount() - 1;
            for (int leg = 0; leg < contest.rules[LEGS]; leg++) {
                for (int r = 0; r < rounds; r++) {
                    int round = leg * rounds + r;
                    addRound(contest, round, r, (leg & 1) == 1, first + round * contest.rules[EVERY]);
                }
            }
            contest.matchCount = matchCount - contest.firstMatch;
        }

        private void addRound(Competition contest, int round, int r, boolean turned, int date) {
            int last = contest.placeCount() - 1;
            boolean evenRound = (r & 1) == 0;
            addFixture(contest, round, evenRound != turned ? r : last, evenRound != turned ? last : r, date);
            for (int i = 1; i <= last / 2; i++) {
                int up = (r + i) % last;
                int down = (r - i + last) % last;
                boolean upAtHome = (i & 1) == 1 != turned;
                addFixture(contest, round, upAtHome ? up : down, upAtHome ? down : up, date);
            }
        }

        private void addFixture(Competition contest, int round, int home, int away, int date) {
            // The place that is none is the one behind those who entered.
            if (home >= contest.entered || away >= contest.entered || matchCount >= MATCHES) {
                return;
            }
            matches[matchCount] = new Match(contest, matchCount, round, contest.clubs[home], contest.clubs[away], date);
            matchCount++;
        }

        int countBreaks(Competition contest, int club) {
            int found = 0;
            boolean any = false;
            boolean wasHome = false;
            for (int k = 0; k < contest.matchCount; k++) {
                Match m = matches[contest.firstMatch + k];
                if (m.has(club)) {
                    boolean isHome = m.home == club;
                    if (any && isHome == wasHome) {
                        found++;
                    }
                    any = true;
                    wasHome = isHome;
                }
            }
            return found;
        }

        /** Postpones a match: how many others are moved; STATE: it can't be. */
        int putOff(Match m, int date) {
            int before = m.date;
            m.date = date;
            int going = listAgainst(m);
            int gone = 0;
            while (gone < going && goBehind(matches[listed[gone]], date, gone)) {
                gone++;
            }
            if (going == NONE || gone < going) {
                for (int k = 0; k < gone; k++) {
                    matches[listed[k]].date = datesBefore[k];
                }
                m.date = before;
                return STATE;
            }
            for (int k = 0; k < going; k++) {
                movedMatches[k] = listed[k];
            }
            movedCount = going;
            return going;
        }

        /** Lists what stands against a match where it is now; NONE: one of these is not told. */
        private int listAgainst(Match m) {
            int found = 0;
            for (int k = 0; k < matchCount; k++) {
                Match other = matches[k];
                if (k != m.number && standAgainst(m, other)) {
                    if (other.phaseOfLife() != TOLD) {
                        return NONE;
                    }
                    listed[found] = k;
                    found++;
                }
            }
            return found;
        }

        private boolean standAgainst(Match a, Match b) {
            if (a.absent != NONE || b.absent != NONE) {
                return false;
            }
            int apart = Math.abs(a.date - b.date);
            if (apart == 0 && things.stadium[a.home] == things.stadium[b.home]) {
                return true;
            }
            return apart < Math.max(a.rest(), b.rest()) && shareClub(a, b);
        }

        private static boolean shareClub(Match a, Match b) {
            return a.has(b.home) || a.has(b.away);
        }

        private boolean goBehind(Match m, int date, int k) {
            blockDays(m);
            for (int d = date + 1; d <= LAST_DAY; d++) {
                if (blocked[d] == 0) {
                    datesBefore[k] = m.date;
                    m.date = d;
                    return true;
                }
            }
            return false;
        }

        /** Marks every day on which something stands against a match, in one pass over the others. */
        private void blockDays(Match m) {
            Arrays.fill(blocked, 0);
            for (int k = 0; k < matchCount; k++) {
                Match other = matches[k];
                if (k == m.number || other.absent != NONE) {
                    continue;
                }
                if (things.stadium[m.home] == things.stadium[other.home]) {
                    blocked[other.date] = 1;
                }
                if (shareClub(m, other)) {
                    int reach = Math.max(m.rest(), other.rest()) - 1;
                    int to = Math.min(LAST_DAY, other.date + reach);
                    for (int d = Math.max(0, other.date - reach); d <= to; d++) {
                        blocked[d] = 1;
                    }
                }
            }
        }

        void addDeduction(int c, int club, int points) {
            deductedIn[deductions] = c;
            deductedFrom[deductions] = club;
            deductedPoints[deductions] = points;
            deductedOn[deductions] = things.today;
            deductions++;
        }

        int deductedUpTo(int date, int c, int club) {
            int sum = 0;
            for (int k = 0; k < deductions; k++) {
                if (deductedIn[k] == c && deductedFrom[k] == club && deductedOn[k] <= date) {
                    sum += deductedPoints[k];
                }
            }
            return sum;
        }

        /** Why a person may not come on a side's sheet, 0: it may. */
        int whyNot(int person, Match m, int side) {
            if (things.clubOn(person, m.date) != (side == 0 ? m.home : m.away)) {
                return 1;
            }
            if (isBanned(person, m)) {
                return 2;
            }
            if (m.placeOf(person) != NONE) {
                return 3;
            }
            for (int k = 0; k < matchCount; k++) {
                Match other = matches[k];
                if (k != m.number && other.date == m.date && other.absent == NONE && other.placeOf(person) != NONE) {
                    return 4;
                }
            }
            return 0;
        }

        private boolean isBanned(int person, Match x) {
            int rows = listAhead(person, x);
            int cards = x.contest.rules[CARDS];
            int debt = 0;
            int yellows = 0;
            for (int k = 0; k < rows; k++) {
                Match m = matches[listed[k]];
                if (debt > 0) {
                    debt--;
                }
                int place = m.placeOf(person);
                if (m.play == null || place == NONE) {
                    continue;
                }
                if (m.play.isSentOff(place)) {
                    debt += x.contest.rules[RED];
                    continue;
                }
                int after = yellows + m.play.yellows[place];
                if (cards > 0 && after / cards > yellows / cards) {
                    debt++;
                }
                yellows = after;
            }
            return debt > 0;
        }

        /** Lists by days, then numbers, the decided matches ahead of x of the club that the person had then. */
        private int listAhead(int person, Match x) {
            int found = 0;
            for (int k = 0; k < x.contest.matchCount; k++) {
                Match m = matches[x.contest.firstMatch + k];
                boolean ahead = m.date < x.date || m.date == x.date && m.number < x.number;
                if (!ahead || !m.isDecided() || !m.has(things.clubOn(person, m.date))) {
                    continue;
                }
                int at = found;
                while (at > 0 && matches[listed[at - 1]].date > m.date) {
                    listed[at] = listed[at - 1];
                    at--;
                }
                listed[at] = m.number;
                found++;
            }
            return found;
        }
    }

    /** The standings of a competition on a day; its clubs go by their seats. */
    private static final class Standings {
        static final int WIDTH = 8;
        private static final int PLAYED = 0;
        private static final int WON = 1;
        private static final int DRAWN = 2;
        private static final int LOST = 3;
        private static final int SCORED = 4;
        private static final int AGAINST = 5;
        static final int POINTS = 6;
        static final int PLACE = 7;
        // Above the classes that can wait at once: no two of them share a club, and each has two.
        private static final int WAITING = 16;
        private static final int STEPS = 1000;

        private final Season season;
        private Competition contest;
        final int[] lines = new int[CLUBS * WIDTH];
        private final int[] away = new int[CLUBS];
        private final int[] fair = new int[CLUBS];
        private final int[] headPoints = new int[CLUBS * CLUBS];
        private final int[] headScored = new int[CLUBS * CLUBS];
        final int[] order = new int[CLUBS];
        final int[] partedBy = new int[CLUBS];
        private final long[] worth = new long[CLUBS];
        private final int[] waitingFrom = new int[WAITING];
        private final int[] waitingTo = new int[WAITING];
        private final int[] waitingKey = new int[WAITING];
        private int waiting;

        Standings(Season season) {
            this.season = season;
        }

        /** Adds up what a competition's decided matches up to a day gave. */
        void tally(Competition competition, int date) {
            contest = competition;
            Arrays.fill(lines, 0);
            Arrays.fill(away, 0);
            Arrays.fill(fair, 0);
            Arrays.fill(headPoints, 0);
            Arrays.fill(headScored, 0);
            for (int k = 0; k < contest.matchCount; k++) {
                Match m = season.matches[contest.firstMatch + k];
                if (m.date <= date && m.isDecided()) {
                    addResult(m, m.scoreOf(0), m.scoreOf(1));
                    addCards(m);
                }
            }
            for (int seat = 0; seat < contest.entered; seat++) {
                lines[seat * WIDTH + POINTS] -= season.deductedUpTo(date, contest.number, contest.clubs[seat]);
            }
        }

        void addResult(Match m, int homeScore, int awayScore) {
            int homeSeat = contest.seat[m.home];
            int awaySeat = contest.seat[m.away];
            if (homeSeat == NONE || awaySeat == NONE) {
                return;
            }
            addSide(homeSeat, awaySeat, homeScore, awayScore);
            addSide(awaySeat, homeSeat, awayScore, homeScore);
            away[awaySeat] += awayScore;
        }

        private void addSide(int seat, int other, int scored, int against) {
            int line = seat * WIDTH;
            int result = scored > against ? WON : scored == against ? DRAWN : LOST;
            // The rules have win, draw and loss in the order of won, drawn and lost.
            int points = contest.rules[WIN + result - WON];
            lines[line + PLAYED]++;
            lines[line + result]++;
            lines[line + SCORED] += scored;
            lines[line + AGAINST] += against;
            lines[line + POINTS] += points;
            headPoints[seat * CLUBS + other] += points;
            headScored[seat * CLUBS + other] += scored;
        }

        private void addCards(Match m) {
            if (m.play == null) {
                return;
            }
            for (int side = 0; side < 2; side++) {
                int seat = contest.seat[side == 0 ? m.home : m.away];
                for (int k = 0; seat != NONE && k < m.listed[side]; k++) {
                    int place = side * SHEET + k;
                    fair[seat] += m.play.yellows[place] + (m.play.isSentOff(place) ? 3 : 0);
                }
            }
        }

        /** Orders the clubs of the latest tally. */
        void rank() {
            for (int k = 0; k < CLUBS; k++) {
                order[k] = k;
                partedBy[k] = NONE;
            }
            waiting = 0;
            putWaiting(0, contest.entered, 0);
            for (int steps = 0; waiting > 0 && steps < STEPS; steps++) {
                waiting--;
                orderGroup(waitingFrom[waiting], waitingTo[waiting], waitingKey[waiting]);
            }
            int place = 1;
            for (int k = 0; k < contest.entered; k++) {
                if (k > 0 && partedBy[k - 1] != NONE) {
                    place = k + 1;
                }
                lines[order[k] * WIDTH + PLACE] = place;
            }
        }

        private void putWaiting(int from, int to, int key) {
            boolean done = to - from < 2 || key > contest.rules[KEY_COUNT];
            if (!done && waiting < WAITING) {
                waitingFrom[waiting] = from;
                waitingTo[waiting] = to;
                waitingKey[waiting] = key;
                waiting++;
            }
        }

        private void orderGroup(int from, int to, int key) {
            weigh(from, to, key);
            sort(from, to);
            boolean oneClass = worth[order[from]] == worth[order[to - 1]];
            int next = !oneClass && contest.rules[REDO] == 1 ? 0 : key + 1;
            int begin = from;
            for (int k = from + 1; k <= to; k++) {
                if (k == to || worth[order[k]] != worth[order[k - 1]]) {
                    putWaiting(begin, k, next);
                    if (k < to) {
                        partedBy[k - 1] = key;
                    }
                    begin = k;
                }
            }
        }

        private void weigh(int from, int to, int key) {
            int group = 0;
            for (int k = from; k < to; k++) {
                group |= 1 << contest.clubs[order[k]];
            }
            for (int k = from; k < to; k++) {
                worth[order[k]] = worthOf(order[k], key, group);
            }
        }

        private long worthOf(int seat, int key, int group) {
            int line = seat * WIDTH;
            if (key == 0) {
                return lines[line + POINTS];
            }
            switch (contest.keys[key - 1]) {
                case 0: return lines[line + SCORED] - lines[line + AGAINST];
                case 1: return lines[line + SCORED];
                case 2: return lines[line + WON];
                case 3: return away[seat];
                case 4: return headWorth(seat, group);
                case 5: return -fair[seat];
                default: return lot(contest.clubs[seat], group);
            }
        }

        /** Points, difference and scored against the group, so in one number that the first weighs most. */
        private long headWorth(int seat, int group) {
            long points = 0;
            long scored = 0;
            long against = 0;
            for (int other = 0; other < contest.entered; other++) {
                if ((group >> contest.clubs[other] & 1) != 0) {
                    points += headPoints[seat * CLUBS + other];
                    scored += headScored[seat * CLUBS + other];
                    against += headScored[other * CLUBS + seat];
                }
            }
            return (points * 1000000L + scored - against) * 1000000L + scored;
        }

        private int lot(int club, int group) {
            int x = (contest.rules[SEED] * 1000003 + group) * 31 + club;
            x = (x ^ x >>> 16) * 73244475;
            x = (x ^ x >>> 16) * 73244475;
            x = x ^ x >>> 16;
            return x & 0x7fffffff;
        }

        /** Sorts by worth, the greater first; equals stay as they stood, which is as they entered. */
        private void sort(int from, int to) {
            for (int k = from + 1; k < to; k++) {
                int seat = order[k];
                int at = k;
                while (at > from && worth[order[at - 1]] < worth[seat]) {
                    order[at] = order[at - 1];
                    at--;
                }
                order[at] = seat;
            }
        }
    }

    /** Who can still be first: a witness, or a cut that proves the contrary. */
    private static final class Title {
        private static final int FEW = 8;
        private static final int MANY = 40;
        private static final int FIRSTS_MOST = 3;
        private static final int FREE = 1000;

        private final Season season;
        private final Standings standings;
        int answer = NONE;
        int cutBits;
        final int[] results = new int[MATCHES];

        private Competition contest;
        private int best;
        private final int[] points = new int[CLUBS];
        private final int[] open = new int[MANY];
        private int openCount;
        // Of the two parts of an open match's surplus, how many go to the club at home.
        private final int[] homeParts = new int[MANY];
        private final int[] cap = new int[CLUBS];
        private final int[] load = new int[CLUBS];
        private final int[] via = new int[CLUBS];
        private final int[] queue = new int[CLUBS];
        private int[] slack;

        Title(Season season, Standings standings) {
            this.season = season;
            this.standings = standings;
            Arrays.fill(results, NONE);
        }

        int ask(Competition competition, int seat) {
            contest = competition;
            cutBits = 0;
            Arrays.fill(results, NONE);
            boolean even = contest.rules[WIN] + contest.rules[LOSS] == 2 * contest.rules[DRAW];
            if (!listOpen(contest.clubs[seat], even ? MANY : FEW)) {
                answer = 2;
                return answer;
            }
            takePoints(seat);
            if (even) {
                setCaps(seat);
                answer = spreadParts(seat) ? 1 : 0;
                if (answer == 0) {
                    cutBits = leastCut(seat);
                }
            } else {
                answer = noneAbove(seat) && search(0) ? 1 : 0;
            }
            return answer;
        }

        /** Lists the matches left without the club, and settles its own; false: there are too many. */
        private boolean listOpen(int club, int most) {
            openCount = 0;
            for (int k = 0; k < contest.matchCount; k++) {
                Match m = season.matches[contest.firstMatch + k];
                if (m.isDecided()) {
                    continue;
                }
                if (m.has(club)) {
                    results[m.number] = m.home == club ? 0 : 2;
                } else if (openCount >= most) {
                    return false;
                } else {
                    open[openCount] = m.number;
                    openCount++;
                }
            }
            return true;
        }

        /** The points of all with the club's own matches won, and what is best by that. */
        private void takePoints(int seat) {
            standings.tally(contest, LAST_DAY);
            for (int s = 0; s < contest.entered; s++) {
                points[s] = standings.lines[s * Standings.WIDTH + Standings.POINTS];
            }
            for (int k = 0; k < contest.matchCount; k++) {
                Match m = season.matches[contest.firstMatch + k];
                if (results[m.number] != NONE) {
                    int homeSeat = contest.seat[m.home];
                    int awaySeat = contest.seat[m.away];
                    points[homeSeat] += contest.rules[homeSeat == seat ? WIN : LOSS];
                    points[awaySeat] += contest.rules[awaySeat == seat ? WIN : LOSS];
                }
            }
            best = points[seat];
        }

        private boolean noneAbove(int seat) {
            for (int s = 0; s < contest.entered; s++) {
                if (s != seat && points[s] > best) {
                    return false;
                }
            }
            return true;
        }

        /** Tries the results of open match k and all behind it, in order; its depth is 8 at most. */
        private boolean search(int k) {
            if (k >= openCount || k >= FEW) {
                return true;
            }
            Match m = season.matches[open[k]];
            int homeSeat = contest.seat[m.home];
            int awaySeat = contest.seat[m.away];
            for (int result = 0; result <= 2; result++) {
                int forHome = contest.rules[WIN + result];
                int forAway = contest.rules[LOSS - result];
                points[homeSeat] += forHome;
                points[awaySeat] += forAway;
                results[m.number] = result;
                boolean found = points[homeSeat] <= best && points[awaySeat] <= best && search(k + 1);
                points[homeSeat] -= forHome;
                points[awaySeat] -= forAway;
                if (found) {
                    return true;
                }
            }
            results[m.number] = NONE;
            return false;
        }

        /** How many parts, of two a match, each other club may still take. */
        private void setCaps(int seat) {
            int part = contest.rules[WIN] - contest.rules[DRAW];
            for (int s = 0; s < contest.entered; s++) {
                int spare = best - points[s];
                for (int k = 0; k < openCount; k++) {
                    if (season.matches[open[k]].has(contest.clubs[s])) {
                        spare -= contest.rules[LOSS];
                    }
                }
                cap[s] = spare < 0 ? -1 : part == 0 ? FREE : spare / part;
                load[s] = 0;
            }
            cap[seat] = 0;
        }

        /** Finds the first witness by moving parts from full clubs to others; false: there is none. */
        private boolean spreadParts(int seat) {
            for (int k = 0; k < openCount; k++) {
                homeParts[k] = 2;
                load[homeSeatOf(k)] += 2;
            }
            for (int s = 0; s < contest.entered; s++) {
                int over = s == seat ? 0 : load[s] - cap[s];
                for (int n = 0; n < over; n++) {
                    if (!relieve(s, 0)) {
                        return false;
                    }
                }
            }
            for (int k = 0; k < openCount; k++) {
                for (int n = homeParts[k]; n < 2 && takePartHome(k); n++) {
                    homeParts[k] = n + 1;
                }
                results[open[k]] = 2 - homeParts[k];
            }
            return true;
        }

        /** Moves a part of match k to the club at home, if those behind it leave a way for that. */
        private boolean takePartHome(int k) {
            int homeSeat = homeSeatOf(k);
            int awaySeat = awaySeatOf(k);
            load[homeSeat]++;
            load[awaySeat]--;
            if (load[homeSeat] <= cap[homeSeat] || relieve(homeSeat, k + 1)) {
                return true;
            }
            load[homeSeat]--;
            load[awaySeat]++;
            return false;
        }

        private int homeSeatOf(int k) {
            return contest.seat[season.matches[open[k]].home];
        }

        private int awaySeatOf(int k) {
            return contest.seat[season.matches[open[k]].away];
        }

        /** Takes a part from a club over matches from k on to one that is not full, by the shortest way. */
        private boolean relieve(int seat, int from) {
            Arrays.fill(via, NONE);
            int head = 0;
            int tail = 1;
            queue[0] = seat;
            via[seat] = openCount;
            while (head < tail && head < CLUBS) {
                int at = queue[head];
                head++;
                if (load[at] < cap[at]) {
                    shiftAlong(seat, at);
                    return true;
                }
                for (int k = from; k < openCount; k++) {
                    int next = takerOf(k, at);
                    if (next != NONE && via[next] == NONE && tail < CLUBS) {
                        via[next] = k;
                        queue[tail] = next;
                        tail++;
                    }
                }
            }
            return false;
        }

        /** Who can take a part of match k from a club, NONE: it has none there. */
        private int takerOf(int k, int seat) {
            if (homeSeatOf(k) == seat) {
                return homeParts[k] > 0 ? awaySeatOf(k) : NONE;
            }
            return awaySeatOf(k) == seat && homeParts[k] < 2 ? homeSeatOf(k) : NONE;
        }

        private void shiftAlong(int seat, int end) {
            load[seat]--;
            load[end]++;
            int at = end;
            for (int steps = 0; at != seat && steps < CLUBS; steps++) {
                int k = via[at];
                if (homeSeatOf(k) == at) {
                    homeParts[k]++;
                    at = awaySeatOf(k);
                } else {
                    homeParts[k]--;
                    at = homeSeatOf(k);
                }
            }
        }

        /** The least set of other clubs, as bits, whose caps are below twice the matches among them. */
        private int leastCut(int seat) {
            if (slack == null) {
                slack = new int[1 << CLUBS];
            }
            slack[0] = 0;
            int others = 0;
            for (int s = 0; s < contest.entered; s++) {
                others |= s == seat ? 0 : 1 << contest.clubs[s];
            }
            int set = 0;
            for (int steps = 1; steps < 1 << CLUBS && set != others; steps++) {
                set = set - others & others;
                int lowest = Integer.numberOfTrailingZeros(set);
                int rest = set & set - 1;
                slack[set] = slack[rest] + cap[contest.seat[lowest]] - 2 * openBetween(lowest, rest);
                if (slack[set] < 0) {
                    return set;
                }
            }
            return 0;
        }

        private int openBetween(int club, int set) {
            int found = 0;
            for (int k = 0; k < openCount; k++) {
                Match m = season.matches[open[k]];
                if (m.home == club && (set >> m.away & 1) != 0 || m.away == club && (set >> m.home & 1) != 0) {
                    found++;
                }
            }
            return found;
        }

        /** In how many rows of results of what is left a club is first; NONE: too much is left. */
        int countFirsts(Competition competition, int seat) {
            contest = competition;
            int left = 0;
            int rows = 1;
            for (int k = 0; k < contest.matchCount; k++) {
                Match m = season.matches[contest.firstMatch + k];
                if (!m.isDecided()) {
                    if (left >= FIRSTS_MOST) {
                        return NONE;
                    }
                    open[left] = m.number;
                    left++;
                    rows *= 3;
                }
            }
            int found = 0;
            for (int row = 0; row < rows; row++) {
                if (isFirstBy(row, left, seat)) {
                    found++;
                }
            }
            return found;
        }

        private boolean isFirstBy(int row, int left, int seat) {
            standings.tally(contest, LAST_DAY);
            int rest = row;
            for (int k = 0; k < left; k++) {
                int result = rest % 3;
                rest = rest / 3;
                standings.addResult(season.matches[open[k]], result == 0 ? 1 : 0, result == 2 ? 1 : 0);
            }
            standings.rank();
            return standings.lines[seat * Standings.WIDTH + Standings.PLACE] == 1;
        }
    }

    /** The draw into groups. */
    private static final class Lots {
        static final int GROUPS = 4;
        static final int POTS = 3;
        private static final int TRIES = 1000000;

        private final Things things;
        int groups;
        private int limit;
        int clubCount;
        int drawnCount;
        int random;
        int total;
        private boolean fresh;
        final int[] potOf = new int[CLUBS];
        final int[] groupOf = new int[CLUBS];
        final int[] potSize = new int[POTS];
        // In how many ways each club comes into each group.
        private final int[] with = new int[CLUBS * GROUPS];
        private final int[] waiting = new int[CLUBS];
        private int waitingCount;
        private final int[] taken = new int[POTS * GROUPS];
        private final int[] countrymen = new int[GROUPS * COUNTRIES];

        Lots(Things things) {
            this.things = things;
        }

        void openNew(int groupCount, int most) {
            groups = groupCount;
            limit = most;
            clubCount = 0;
            drawnCount = 0;
            fresh = false;
            Arrays.fill(potOf, NONE);
            Arrays.fill(groupOf, NONE);
            Arrays.fill(potSize, 0);
        }

        void putIn(int club, int p) {
            potOf[club] = p;
            potSize[p]++;
            clubCount++;
            fresh = false;
        }

        /** Counts all ways anew, if the draw has changed since they were counted. */
        void refresh() {
            if (fresh) {
                return;
            }
            Arrays.fill(with, 0);
            Arrays.fill(taken, 0);
            Arrays.fill(countrymen, 0);
            waitingCount = 0;
            for (int p = 0; p < POTS; p++) {
                for (int club = 0; club < CLUBS; club++) {
                    if (potOf[club] == p && groupOf[club] == NONE) {
                        waiting[waitingCount] = club;
                        waitingCount++;
                    } else if (potOf[club] == p) {
                        taken[p * GROUPS + groupOf[club]] = 1;
                        countrymen[groupOf[club] * COUNTRIES + things.country[club]]++;
                    }
                }
            }
            total = countFrom(0);
            fresh = true;
        }

        /** The ways to place the waiting clubs from k on; there are twelve at most, so its depth is small. */
        private int countFrom(int k) {
            if (k >= waitingCount) {
                return 1;
            }
            int club = waiting[k];
            int found = 0;
            for (int g = 0; g < groups; g++) {
                int cell = potOf[club] * GROUPS + g;
                int home = g * COUNTRIES + things.country[club];
                if (taken[cell] == 0 && countrymen[home] < limit) {
                    taken[cell] = 1;
                    countrymen[home]++;
                    int ways = countFrom(k + 1);
                    with[club * GROUPS + g] += ways;
                    found += ways;
                    countrymen[home]--;
                    taken[cell] = 0;
                }
            }
            return found;
        }

        int waysWith(int club, int group) {
            if (groupOf[club] != NONE) {
                return groupOf[club] == group ? total : 0;
            }
            return with[club * GROUPS + group];
        }

        /** The club that comes next: of the least pot that waits, as what is taken tells. */
        int takeClub() {
            int p = potOf[waiting[0]];
            int inPot = 0;
            for (int k = 0; k < waitingCount; k++) {
                if (potOf[waiting[k]] == p) {
                    inPot++;
                }
            }
            // Those that wait stand by pots, then numbers, so this pot's are the first.
            return waiting[takeBelow(inPot)];
        }

        void place(int club) {
            int told = takeBelow(total);
            int sum = 0;
            for (int g = 0; g < groups; g++) {
                sum += with[club * GROUPS + g];
                if (sum > told) {
                    groupOf[club] = g;
                    drawnCount++;
                    fresh = false;
                    return;
                }
            }
        }

        private int takeBelow(int m) {
            if (m <= 0) {
                return 0;
            }
            long all = 1L << 31;
            long fair = all - all % m;
            int value = 0;
            for (int tries = 0; tries < TRIES; tries++) {
                random = random * 1664525 + 1013904223;
                value = random >>> 1;
                if (value < fair) {
                    break;
                }
            }
            return value % m;
        }
    }

    /** The matching of officials to the matches of a day. */
    private static final class Referees {
        // A match with an official weighs more than all distances together (8 times 11).
        private static final int ONE_MORE = 1000;
        private static final int BARRED = -1;

        private final Season season;
        private final Things things;
        private final int[] toServe = new int[MATCHES];
        private int serveCount;
        // The best of the matches from k on with a set of officials gone, at k * sets + set.
        private int[] best = new int[1];

        Referees(Season season, Things things) {
            this.season = season;
            this.things = things;
        }

        int share(int date) {
            listMatches(date);
            int sets = 1 << things.officials;
            weighAll(sets);
            int set = 0;
            int served = 0;
            for (int k = 0; k < serveCount; k++) {
                Match m = season.matches[toServe[k]];
                int who = firstBest(m, k, set, sets);
                m.referee = who;
                if (who != NONE) {
                    set |= 1 << who;
                    served++;
                }
            }
            return served;
        }

        private void listMatches(int date) {
            serveCount = 0;
            for (int k = 0; k < season.matchCount; k++) {
                Match m = season.matches[k];
                if (m.date == date && !m.isDecided()) {
                    toServe[serveCount] = k;
                    serveCount++;
                }
            }
        }

        private void weighAll(int sets) {
            int needed = (serveCount + 1) * sets;
            if (best.length < needed) {
                best = new int[needed];
            }
            for (int set = 0; set < sets; set++) {
                best[serveCount * sets + set] = 0;
            }
            for (int k = serveCount - 1; k >= 0; k--) {
                Match m = season.matches[toServe[k]];
                for (int set = 0; set < sets; set++) {
                    best[k * sets + set] = weigh(m, k, set, sets);
                }
            }
        }

        private int weigh(Match m, int k, int set, int sets) {
            int behind = (k + 1) * sets;
            int most = best[behind + set];
            for (int who = 0; who < things.officials; who++) {
                int gain = gainOf(m, who, set);
                if (gain != BARRED) {
                    most = Math.max(most, gain + best[behind + (set | 1 << who)]);
                }
            }
            return most;
        }

        private int firstBest(Match m, int k, int set, int sets) {
            int behind = (k + 1) * sets;
            for (int who = 0; who < things.officials; who++) {
                int gain = gainOf(m, who, set);
                if (gain != BARRED && gain + best[behind + (set | 1 << who)] == best[k * sets + set]) {
                    return who;
                }
            }
            return NONE;
        }

        private int gainOf(Match m, int who, int set) {
            int country = things.officialCountry[who];
            if ((set >> who & 1) != 0 || things.country[m.home] == country || things.country[m.away] == country) {
                return BARRED;
            }
            return ONE_MORE - Math.abs(things.officialHome[who] - things.stadium[m.home]);
        }
    }
}
