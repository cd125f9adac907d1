/** Alarms put in order: scored, folded, joined into cases and planned, as the document's promises tell. */
public final class CryOrder {
    public static final int NONE = -1;

    private static final int NOT_AS_TOLD = -2;
    private static final int NO_ROOM = -3;

    private static final int LAST_TIME = 10000;
    private static final int LONGEST_PASS = 1000;
    private static final int ALARM_ROOM = 200;
    private static final int SILENCE_ROOM = 30;
    private static final int TIE_ROOM = 60;
    private static final int SOURCES = 10;
    private static final int THINGS = 40;
    private static final int LOOKERS = 10;
    private static final int GREATEST_WORTH = 100;
    private static final int GREATEST_CAP = 50;
    private static final int GREATEST_LEAST_SETTLED = 20;
    private static final int GREATEST_TRIES = 5;

    private static final int DEEPEST = 4;
    private static final int BITS_OF_A_MARK = 3;
    private static final int MARK_MASK = 7;
    private static final int MARKS_END = 4096;

    private static final int REPEAT_REACH = 10;
    private static final int CAP_REACH = 9;
    private static final int CASE_REACH = 20;
    private static final int SLOW_REACH = 199;
    private static final int SLOW_FLOOR = 30000;
    private static final int LOUD_SCORE = 10000;

    private static final int LONGEST_PLAN = 300;
    private static final int POOL_ROOM = 12;
    private static final int FIRST_MEMBER = 10;

    /** Far above what two numbers of at most 200 need. */
    private static final int EUCLID_STEPS = 100;

    private static final int OPEN = 0;
    private static final int SETTLED_TRUE = 1;
    private static final int SETTLED_FALSE = 2;

    private final Alarm[] alarms = new Alarm[ALARM_ROOM];
    private final Alarm[] latestOfThing = new Alarm[THINGS];
    private final Silence[] silences = new Silence[SILENCE_ROOM];
    private final Node root = new Node(null, 0, null);
    private final Ties ties = new Ties();
    private final Cases cases = new Cases();
    private final Plan planner = new Plan();
    private int alarmCount;
    private int silenceCount;
    private int now;
    private int cap = GREATEST_CAP;
    private int leastSettled = 3;
    private int tries;
    private boolean casesAreStale;

    public CryOrder() {
    }

    public int pass(int n) {
        if (n < 1 || n > LONGEST_PASS || now + n > LAST_TIME) {
            return NONE;
        }
        now += n;
        return now;
    }

    public int alarm(int source, int thing, int marks, int worth) {
        if (!isBelow(source, SOURCES) || !isBelow(thing, THINGS) || !isBelow(marks, MARKS_END)
                || worth < 1 || worth > GREATEST_WORTH) {
            return NOT_AS_TOLD;
        }
        // A repeat is folded and needs no room, so it comes ahead of the look at the room.
        Alarm like = alarmToRepeat(source, thing, marks);
        if (like != null) {
            like.repeat(now);
            return like.number;
        }
        if (alarmCount >= ALARM_ROOM) {
            return NO_ROOM;
        }
        Alarm fresh = new Alarm(alarmCount, now, source, thing, marks, worth, root.grow(marks));
        fresh.silenced = isSilencedNow(source);
        fresh.capped = !fresh.silenced && isCapFullNow(source);
        fresh.leaf.addOpen();
        fresh.soonerOfThing = latestOfThing[thing];
        latestOfThing[thing] = fresh;
        alarms[alarmCount] = fresh;
        alarmCount++;
        casesAreStale = true;
        return fresh.number;
    }

    public int silence(int source, int from, int to) {
        if (!isBelow(source, SOURCES) || from < 0 || from > to || to > LAST_TIME
                || silenceCount >= SILENCE_ROOM) {
            return NONE;
        }
        silences[silenceCount] = new Silence(source, from, to);
        silenceCount++;
        return silenceCount;
    }

    public boolean set(int what, int value) {
        if (what == 0 && value >= 1 && value <= GREATEST_CAP) {
            cap = value;
            return true;
        }
        if (what == 1 && value >= 1 && value <= GREATEST_LEAST_SETTLED) {
            leastSettled = value;
            casesAreStale = true;
            return true;
        }
        if (what == 2 && value >= 0 && value <= GREATEST_TRIES) {
            tries = value;
            return true;
        }
        return false;
    }

    public int verdict(int alarm, int looker, boolean is) {
        Alarm judged = alarmAt(alarm);
        if (judged == null || !isBelow(looker, LOOKERS) || !judged.isOpen() || judged.hasHeard(looker)) {
            return NONE;
        }
        judged.hear(looker, is);
        if (judged.isOpen()) {
            return 0;
        }
        judged.leaf.settle(is);
        casesAreStale = true;
        return 1;
    }

    public boolean tie(int a, int b, boolean joined) {
        if (a == b || !isBelow(a, alarmCount) || !isBelow(b, alarmCount)) {
            return false;
        }
        if (!ties.tell(a, b, joined)) {
            return false;
        }
        casesAreStale = true;
        return true;
    }

    public int told(int alarm, int what) {
        Alarm asked = alarmAt(alarm);
        if (asked == null) {
            return NONE;
        }
        switch (what) {
            case 0: return asked.came;
            case 1: return asked.source;
            case 2: return asked.thing;
            case 3: return asked.marks;
            case 4: return asked.worth;
            case 5: return asked.repeats;
            case 6: return asked.state;
            case 7: return oneIf(asked.silenced);
            case 8: return oneIf(asked.capped);
            case 9: return asked.score(leastSettled);
            case 10: return asked.nodeFor(leastSettled).depth;
            case 11: return asked.verdicts();
            case 12: return caseNumberOf(asked);
            default: return NONE;
        }
    }

    public int node(int d, int marks, int what) {
        if (d < 0 || d > DEEPEST || !isBelow(marks, MARKS_END) || what < 0 || what > 2) {
            return NONE;
        }
        Node asked = root.find(d, marks);
        if (asked == null) {
            // No alarm has grown this node yet, so nothing was ever counted there.
            return 0;
        }
        switch (what) {
            case 0: return asked.settledTrue;
            case 1: return asked.settled;
            default: return asked.open;
        }
    }

    public int odds(int alarm, int what) {
        Alarm asked = alarmAt(alarm);
        if (asked == null || what < 0 || what > 5) {
            return NONE;
        }
        Node at = asked.nodeFor(leastSettled);
        boolean wantsUpper = what % 2 == 0;
        if (what <= 1) {
            return inLowestTerms(at.oddsUpper(), at.oddsLower(), wantsUpper);
        }
        int upper = what <= 3 ? at.settledTrue : at.settledTrue + at.open;
        return inLowestTerms(upper, at.settled + at.open, wantsUpper);
    }

    public int order(int k) {
        Case asked = casesNow().at(k);
        return asked == null ? NONE : asked.number;
    }

    public int caseOf(int number, int what) {
        casesNow();
        Alarm head = alarmAt(number);
        if (head == null || !head.isLive() || head.above != null) {
            return NONE;
        }
        switch (what) {
            case 0: return head.led.size;
            case 1: return head.led.score;
            case 2: return head.led.minutes();
            case 3: return oneIf(head.led.littleKnown);
            default: return what < FIRST_MEMBER ? NONE : memberOf(head, what - FIRST_MEMBER);
        }
    }

    public int slow(int thing) {
        if (!isBelow(thing, THINGS)) {
            return NONE;
        }
        int sum = 0;
        Alarm each = latestOfThing[thing];
        while (each != null && now - each.came <= SLOW_REACH) {
            int score = each.isLive() ? each.score(leastSettled) : 0;
            if (score >= LOUD_SCORE) {
                return NONE;
            }
            sum += score;
            each = each.soonerOfThing;
        }
        return sum > SLOW_FLOOR ? sum : NONE;
    }

    public int plan(int minutes, int k) {
        if (minutes < 0 || minutes > LONGEST_PLAN) {
            return NONE;
        }
        planner.make(casesNow(), minutes, tries);
        if (k == NONE) {
            return planner.takenCount;
        }
        Case asked = planner.at(k);
        return asked == null ? NONE : asked.number;
    }

    public int worth(int minutes, int what) {
        if (minutes < 0 || minutes > LONGEST_PLAN || what < 0 || what > 2) {
            return NONE;
        }
        planner.make(casesNow(), minutes, tries);
        switch (what) {
            case 0: return planner.scoreTaken;
            case 1: return cases.scoreOfAll() - planner.scoreTaken;
            default: return minutes - planner.minutesLeft;
        }
    }

    public int source(int source, int what) {
        if (!isBelow(source, SOURCES) || what < 0 || what > 6) {
            return NONE;
        }
        int sum = 0;
        for (int i = 0; i < alarmCount; i++) {
            if (alarms[i].source == source && isOfKind(alarms[i], what)) {
                sum++;
            }
        }
        return sum;
    }

    public int count(int what) {
        switch (what) {
            case 0: return now;
            case 1: return alarmCount;
            case 2: return root.open;
            case 3: return casesNow().size;
            case 4: return silenceCount;
            case 5: return ties.size;
            default: return NONE;
        }
    }

    private static boolean isBelow(int value, int end) {
        return value >= 0 && value < end;
    }

    private static int oneIf(boolean is) {
        return is ? 1 : 0;
    }

    private static int inLowestTerms(int upper, int lower, boolean wantsUpper) {
        int common = lower;
        int rest = upper;
        for (int step = 0; step < EUCLID_STEPS && rest > 0; step++) {
            int next = common % rest;
            common = rest;
            rest = next;
        }
        if (common < 1) {
            return NONE;
        }
        return (wantsUpper ? upper : lower) / common;
    }

    private static boolean isOfKind(Alarm it, int what) {
        switch (what) {
            case 0: return true;
            case 1: return it.repeats > 0;
            case 2: return it.silenced;
            case 3: return it.capped;
            case 4: return it.state == SETTLED_TRUE;
            case 5: return it.state == SETTLED_FALSE;
            case 6: return it.state == SETTLED_TRUE && it.isHushed();
            default: return false;
        }
    }

    private Alarm alarmAt(int number) {
        return isBelow(number, alarmCount) ? alarms[number] : null;
    }

    private Alarm alarmToRepeat(int source, int thing, int marks) {
        for (int i = alarmCount - 1; i >= 0; i--) {
            Alarm each = alarms[i];
            if (each.source == source && each.thing == thing && each.marks == marks
                    && each.isLive() && now - each.heardLast <= REPEAT_REACH) {
                return each;
            }
        }
        return null;
    }

    private boolean isSilencedNow(int source) {
        for (int i = 0; i < silenceCount; i++) {
            if (silences[i].covers(source, now)) {
                return true;
            }
        }
        return false;
    }

    private boolean isCapFullNow(int source) {
        int came = 0;
        for (int i = alarmCount - 1; i >= 0 && now - alarms[i].came <= CAP_REACH; i--) {
            if (alarms[i].source == source && !alarms[i].isHushed()) {
                came++;
            }
        }
        return came >= cap;
    }

    private Cases casesNow() {
        if (casesAreStale) {
            cases.gather(alarms, alarmCount, ties, leastSettled);
            casesAreStale = false;
        }
        return cases;
    }

    private int caseNumberOf(Alarm it) {
        casesNow();
        return it.isLive() ? it.head().number : NONE;
    }

    private int memberOf(Alarm head, int k) {
        int ahead = k;
        for (int i = head.number; i < alarmCount; i++) {
            Alarm each = alarms[i];
            if (each.isLive() && each.head() == head) {
                if (ahead == 0) {
                    return each.number;
                }
                ahead--;
            }
        }
        return NONE;
    }

    /** A node of the tree of marks; children hang in a chain because most nodes have few. */
    private static final class Node {
        final Node parent;
        final int depth;
        final int mark;
        final Node sibling;
        Node firstChild;
        int settledTrue;
        int settled;
        int open;

        Node(Node parent, int mark, Node sibling) {
            this.parent = parent;
            this.depth = parent == null ? 0 : parent.depth + 1;
            this.mark = mark;
            this.sibling = sibling;
        }

        private static int markAt(int marks, int depth) {
            return (marks >> (BITS_OF_A_MARK * (DEEPEST - 1 - depth))) & MARK_MASK;
        }

        private Node child(int wanted) {
            Node each = firstChild;
            while (each != null && each.mark != wanted) {
                each = each.sibling;
            }
            return each;
        }

        Node find(int wantedDepth, int marks) {
            Node at = this;
            for (int d = 0; d < wantedDepth && at != null; d++) {
                at = at.child(markAt(marks, d));
            }
            return at;
        }

        Node grow(int marks) {
            Node at = this;
            for (int d = 0; d < DEEPEST; d++) {
                int wanted = markAt(marks, d);
                Node next = at.child(wanted);
                if (next == null) {
                    next = new Node(at, wanted, at.firstChild);
                    at.firstChild = next;
                }
                at = next;
            }
            return at;
        }

        void addOpen() {
            for (Node at = this; at != null; at = at.parent) {
                at.open++;
            }
        }

        void settle(boolean is) {
            for (Node at = this; at != null; at = at.parent) {
                at.open--;
                at.settled++;
                at.settledTrue += oneIf(is);
            }
        }

        int oddsUpper() {
            return settled == 0 ? 1 : settledTrue;
        }

        int oddsLower() {
            return settled == 0 ? 2 : settled;
        }
    }

    private static final class Alarm {
        final int number;
        final int came;
        final int source;
        final int thing;
        final int marks;
        final int worth;
        final Node leaf;
        /** The case that this alarm leads while it is the least of one; made once to be used again. */
        final Case led;
        boolean silenced;
        boolean capped;
        int heardLast;
        int repeats;
        int state = OPEN;
        int lookersForTrue;
        int lookersForFalse;
        /** The alarm of the same thing that came before: cases are looked for among these alone. */
        Alarm soonerOfThing;
        /** A lesser alarm of the same case; null for the least one. */
        Alarm above;

        Alarm(int number, int came, int source, int thing, int marks, int worth, Node leaf) {
            this.number = number;
            this.came = came;
            this.source = source;
            this.thing = thing;
            this.marks = marks;
            this.worth = worth;
            this.leaf = leaf;
            this.led = new Case(number);
            this.heardLast = came;
        }

        boolean isOpen() {
            return state == OPEN;
        }

        boolean isHushed() {
            return silenced || capped;
        }

        boolean isLive() {
            return isOpen() && !isHushed();
        }

        void repeat(int time) {
            repeats++;
            heardLast = time;
        }

        boolean hasHeard(int looker) {
            return (((lookersForTrue | lookersForFalse) >> looker) & 1) == 1;
        }

        void hear(int looker, boolean is) {
            if (is) {
                lookersForTrue |= 1 << looker;
            } else {
                lookersForFalse |= 1 << looker;
            }
            if (Integer.bitCount(lookersForTrue) >= 2) {
                state = SETTLED_TRUE;
            } else if (Integer.bitCount(lookersForFalse) >= 2) {
                state = SETTLED_FALSE;
            }
        }

        int verdicts() {
            return Integer.bitCount(lookersForTrue | lookersForFalse);
        }

        Node nodeFor(int leastSettled) {
            Node at = leaf;
            while (at.settled < leastSettled && at.parent != null) {
                at = at.parent;
            }
            return at;
        }

        int score(int leastSettled) {
            Node at = nodeFor(leastSettled);
            int lower = at.oddsLower();
            return lower < 1 ? 0 : 1000 * worth * at.oddsUpper() / lower;
        }

        Alarm head() {
            Alarm at = this;
            while (at.above != null) {
                at = at.above;
            }
            return at;
        }

        void joinCaseOf(Alarm other) {
            Alarm mine = head();
            Alarm theirs = other.head();
            // The lesser head stays on top, so that a head's number is its case's number.
            if (mine.number < theirs.number) {
                theirs.above = mine;
            } else if (theirs.number < mine.number) {
                mine.above = theirs;
            }
        }
    }

    private static final class Silence {
        final int source;
        final int from;
        final int to;

        Silence(int source, int from, int to) {
            this.source = source;
            this.from = from;
            this.to = to;
        }

        boolean covers(int asked, int time) {
            return asked == source && from <= time && time <= to;
        }
    }

    private static final class Pair {
        final int lesser;
        final int greater;
        boolean joined;

        Pair(int lesser, int greater, boolean joined) {
            this.lesser = lesser;
            this.greater = greater;
            this.joined = joined;
        }
    }

    /** The pairs of alarms that were told to be joined or parted. */
    private static final class Ties {
        final Pair[] pairs = new Pair[TIE_ROOM];
        int size;

        private Pair find(int a, int b) {
            int lesser = Math.min(a, b);
            int greater = Math.max(a, b);
            for (int i = 0; i < size; i++) {
                if (pairs[i].lesser == lesser && pairs[i].greater == greater) {
                    return pairs[i];
                }
            }
            return null;
        }

        boolean tell(int a, int b, boolean joined) {
            Pair known = find(a, b);
            if (known != null) {
                // What is told in place of the old word takes no new room.
                boolean changes = known.joined != joined;
                known.joined = joined;
                return changes;
            }
            if (size >= TIE_ROOM) {
                return false;
            }
            pairs[size] = new Pair(Math.min(a, b), Math.max(a, b), joined);
            size++;
            return true;
        }

        boolean isParted(int a, int b) {
            Pair known = find(a, b);
            return known != null && !known.joined;
        }
    }

    private static final class Case {
        final int number;
        int size;
        int score;
        boolean littleKnown;

        Case(int number) {
            this.number = number;
        }

        void clear() {
            size = 0;
            score = 0;
            littleKnown = false;
        }

        void add(int alarmScore, int depth) {
            size++;
            score = Math.max(score, alarmScore);
            littleKnown = littleKnown || depth == 0;
        }

        int minutes() {
            return 5 + 2 * size;
        }

        boolean isAheadOf(Case other) {
            return score > other.score || (score == other.score && number < other.number);
        }
    }

    /** All cases in their order, as they were when last gathered. */
    private static final class Cases {
        final Case[] ordered = new Case[ALARM_ROOM];
        int size;

        void gather(Alarm[] alarms, int alarmCount, Ties ties, int leastSettled) {
            for (int i = 0; i < alarmCount; i++) {
                alarms[i].above = null;
                alarms[i].led.clear();
            }
            for (int i = 0; i < alarmCount; i++) {
                if (alarms[i].isLive()) {
                    joinWithSoonerOnes(alarms[i], ties);
                }
            }
            joinToldOnes(alarms, alarmCount, ties);
            fillCases(alarms, alarmCount, leastSettled);
            putInOrder(alarms, alarmCount);
        }

        Case at(int k) {
            return isBelow(k, size) ? ordered[k] : null;
        }

        int scoreOfAll() {
            int sum = 0;
            for (int i = 0; i < size; i++) {
                sum += ordered[i].score;
            }
            return sum;
        }

        private static void joinWithSoonerOnes(Alarm later, Ties ties) {
            Alarm each = later.soonerOfThing;
            while (each != null && later.came - each.came <= CASE_REACH) {
                // Those in one case already are left out first: to look for a parting costs more.
                if (each.isLive() && each.head() != later.head() && !ties.isParted(each.number, later.number)) {
                    later.joinCaseOf(each);
                }
                each = each.soonerOfThing;
            }
        }

        private static void joinToldOnes(Alarm[] alarms, int alarmCount, Ties ties) {
            for (int i = 0; i < ties.size; i++) {
                Pair each = ties.pairs[i];
                if (each.joined && isBelow(each.lesser, alarmCount) && isBelow(each.greater, alarmCount)
                        && alarms[each.lesser].isLive() && alarms[each.greater].isLive()) {
                    alarms[each.lesser].joinCaseOf(alarms[each.greater]);
                }
            }
        }

        private static void fillCases(Alarm[] alarms, int alarmCount, int leastSettled) {
            for (int i = 0; i < alarmCount; i++) {
                Alarm each = alarms[i];
                if (each.isLive()) {
                    each.head().led.add(each.score(leastSettled), each.nodeFor(leastSettled).depth);
                }
            }
        }

        private void putInOrder(Alarm[] alarms, int alarmCount) {
            size = 0;
            for (int i = 0; i < alarmCount; i++) {
                if (alarms[i].led.size > 0) {
                    putInPlace(alarms[i].led);
                }
            }
        }

        private void putInPlace(Case fresh) {
            if (size >= ordered.length) {
                return;
            }
            int place = size;
            while (place > 0 && fresh.isAheadOf(ordered[place - 1])) {
                ordered[place] = ordered[place - 1];
                place--;
            }
            ordered[place] = fresh;
            size++;
        }
    }

    /** A plan for some minutes; its rows are made once and used again for every plan. */
    private static final class Plan {
        final Case[] taken = new Case[GREATEST_TRIES + POOL_ROOM];
        final Case[] pool = new Case[POOL_ROOM];
        /** By minutes: the greatest sum of scores that fits them. */
        final int[] best = new int[LONGEST_PLAN + 1];
        /** By minutes: bit i tells whether that sum, over the pool up to its i-th case, needs that case. */
        final int[] needed = new int[LONGEST_PLAN + 1];
        int takenCount;
        int poolCount;
        int scoreTaken;
        int minutesLeft;

        void make(Cases cases, int minutes, int tries) {
            takenCount = 0;
            poolCount = 0;
            scoreTaken = 0;
            minutesLeft = Math.max(0, Math.min(minutes, LONGEST_PLAN));
            takeTries(cases, tries);
            fillPool(cases);
            weighPool();
            takeBestOfPool();
        }

        Case at(int k) {
            return isBelow(k, takenCount) ? taken[k] : null;
        }

        private void take(Case it) {
            if (takenCount < taken.length) {
                taken[takenCount] = it;
                takenCount++;
                scoreTaken += it.score;
                minutesLeft -= it.minutes();
            }
        }

        private boolean isTaken(Case it) {
            for (int i = 0; i < takenCount; i++) {
                if (taken[i] == it) {
                    return true;
                }
            }
            return false;
        }

        private void takeTries(Cases cases, int tries) {
            for (int i = 0; i < cases.size && takenCount < tries; i++) {
                Case each = cases.ordered[i];
                if (each.littleKnown && each.minutes() <= minutesLeft) {
                    take(each);
                }
            }
        }

        private void fillPool(Cases cases) {
            for (int i = 0; i < cases.size && poolCount < POOL_ROOM; i++) {
                if (!isTaken(cases.ordered[i])) {
                    pool[poolCount] = cases.ordered[i];
                    poolCount++;
                }
            }
        }

        private void weighPool() {
            for (int m = 0; m <= minutesLeft; m++) {
                best[m] = 0;
                needed[m] = 0;
            }
            for (int i = 0; i < poolCount; i++) {
                int minutes = pool[i].minutes();
                int score = pool[i].score;
                for (int m = minutesLeft; m >= minutes; m--) {
                    // An equal sum is not enough: a later case is taken only if it must be.
                    if (best[m - minutes] + score > best[m]) {
                        best[m] = best[m - minutes] + score;
                        needed[m] |= 1 << i;
                    }
                }
            }
        }

        private void takeBestOfPool() {
            int chosen = 0;
            int left = minutesLeft;
            for (int i = poolCount - 1; i >= 0; i--) {
                if (left >= 0 && ((needed[left] >> i) & 1) == 1) {
                    chosen |= 1 << i;
                    left -= pool[i].minutes();
                }
            }
            for (int i = 0; i < poolCount; i++) {
                if (((chosen >> i) & 1) == 1) {
                    take(pool[i]);
                }
            }
        }
    }
}
