import java.util.Arrays;

/**
 * What nine walkers say of a town that is gone: walks told by turnings are laid on one
 * another, and what must be one is made one.
 */
public final class WalkersSay {
    public static final int BAD = -1, NO = -2, FULL = -3, NONE = -4;

    private static final int TEXT_LIMIT = 300;
    private static final int WALK_LIMIT = 9;
    private static final int THING_LIMIT = 8;
    private static final int CORNER_LIMIT = 20;
    private static final int END_LIMIT = 200;
    private static final int KEPT_LIMIT = 2;
    private static final int TOLD_LIMIT = 12;
    private static final int TURNING_LIMIT = 5;
    private static final int SMALL_CORNERS = 4;
    private static final int SMALL_ENDS = 24;
    // Four corners make six pairs; each end stands in three of them, each pair needs one try less.
    private static final int SMALL_TRIES = 3 * SMALL_ENDS;
    // No byte of a text tells more than six ends: turning 5 tells five on and one across.
    private static final int LOOSE_LIMIT = 6 * TEXT_LIMIT;

    private static final int UNKNOWN = -1;
    private static final int STANDS = 0;

    private static final int WANTS_WALK = 0;
    private static final int WANTS_TOKEN = 1;
    private static final int WANTS_OFFSET = 2;
    private static final int WANTS_LANES = 3;
    private static final int WANTS_VISIT = 4;

    private final Text text = new Text();
    private final Text laid = new Text();
    private final Text[] keptTexts = new Text[KEPT_LIMIT];
    private final int[] keptDoubts = new int[KEPT_LIMIT];
    private final int[] clash = new int[WALK_LIMIT];
    private final Tale tale = new Tale();
    private final Town town = new Town();
    private final Joins joins = new Joins(town);
    private int keptNow;
    private int doubted;
    private int fewestDoubts;
    private boolean settled;

    public WalkersSay() {
        for (int i = 0; i < KEPT_LIMIT; i++) {
            keptTexts[i] = new Text();
        }
        fewestDoubts = UNKNOWN;
    }

    public int write(int n, long v) {
        if (n < 1 || n > 8) {
            return BAD;
        }
        if (text.length + n > TEXT_LIMIT) {
            return FULL;
        }
        for (int shift = 8 * (n - 1); shift >= 0; shift -= 8) {
            text.append((byte) (v >> shift));
        }
        return text.length;
    }

    public int wipe() {
        int was = text.length;
        text.length = 0;
        return was;
    }

    public int fault() {
        return text.firstFault();
    }

    public int lay() {
        if (text.firstFault() != NONE) {
            return NO;
        }
        layAnew(text, 0);
        return laid.walks;
    }

    public int doubt(int walks) {
        if (walks < 0 || walks > allWalks()) {
            return BAD;
        }
        int was = doubted;
        doubted = walks;
        settled = false;
        return was;
    }

    public int why() {
        settle();
        return town.barringWalk;
    }

    public int fewest() {
        if (fewestDoubts == UNKNOWN && tale.tell(laid, allWalks()) == NONE) {
            fewestDoubts = 0;
        }
        if (fewestDoubts == UNKNOWN) {
            findClashes();
            fewestDoubts = firstSetThatHelps();
        }
        return fewestDoubts;
    }

    public int corners() {
        int answer = settle();
        return answer != STANDS ? answer : town.cornersNow;
    }

    public int corner(int walk, int i) {
        if (walk < 0 || walk >= laid.walks || (doubted >> walk & 1) != 0) {
            return BAD;
        }
        if (i < 0 || i > laid.turnings[walk]) {
            return BAD;
        }
        int answer = settle();
        return answer != STANDS ? answer : town.cornerAt[laid.start[walk] + i];
    }

    public int about(int corner, int what) {
        if (what < 0 || what > 3) {
            return BAD;
        }
        int answer = settle();
        if (answer != STANDS) {
            return answer;
        }
        if (!town.isCorner(corner)) {
            return BAD;
        }
        switch (what) {
            case 0:
                return town.knownLanes(corner);
            case 1:
                return town.round[corner];
            case 2:
                return town.thingAt(corner);
            default:
                return town.openEnds(corner);
        }
    }

    public int town(int what) {
        if (what < 0 || what > 3) {
            return BAD;
        }
        int answer = settle();
        if (answer != STANDS) {
            return answer;
        }
        switch (what) {
            case 0:
                return town.lanes();
            case 1:
                return town.ends.used - 2 * town.lanes();
            case 2:
                return town.isFlat() ? 1 : 0;
            default:
                return town.parts();
        }
    }

    public int may(int a, int b) {
        int answer = settle();
        if (answer != STANDS) {
            return answer;
        }
        if (!town.isCorner(a) || !town.isCorner(b)) {
            return BAD;
        }
        if (a == b) {
            return 2;
        }
        return joins.canBeOne(Math.min(a, b), Math.max(a, b)) ? 1 : 0;
    }

    public int pairs(int i) {
        if (i < -1) {
            return BAD;
        }
        int answer = settle();
        if (answer != STANDS) {
            return answer;
        }
        int seen = 0;
        for (int a = 0; a < town.cornersNow; a++) {
            for (int b = a + 1; b < town.cornersNow; b++) {
                if (joins.canBeOne(a, b)) {
                    if (seen == i) {
                        return 100 * a + b;
                    }
                    seen++;
                }
            }
        }
        return i == -1 ? seen : NONE;
    }

    public int smallest() {
        int answer = settle();
        // A town that is too large for numbers is too large for this, too, and NO comes first.
        if (answer != STANDS || town.cornersNow > SMALL_CORNERS || town.ends.used > SMALL_ENDS) {
            return NO;
        }
        return joins.fewestCorners();
    }

    public int way(int thing, int corner, int i) {
        if (!isThing(thing) || i < -1) {
            return BAD;
        }
        int answer = settle();
        if (answer != STANDS) {
            return answer;
        }
        if (!town.isCorner(corner)) {
            return BAD;
        }
        int from = town.claims.firstEnd[thing];
        int reached = from < 0 ? -1 : town.findWay(from, corner);
        if (reached < 0) {
            return NONE;
        }
        int turnings = town.wayLength[reached];
        if (i == -1) {
            return turnings;
        }
        return i < turnings ? town.turningOfWay(reached, turnings - 1 - i) : NONE;
    }

    public int told(int thing, int n, long v, int what) {
        if (!isThing(thing) || n < 0 || n > TOLD_LIMIT || what < 0 || what > 1) {
            return BAD;
        }
        if (!isTurnings(v, n)) {
            return BAD;
        }
        int answer = settle();
        if (answer != STANDS) {
            return answer;
        }
        int at = town.claims.firstEnd[thing];
        if (at < 0) {
            return NONE;
        }
        int gone = 0;
        while (gone < n) {
            int reached = town.turned(at, turningIn(v, n - 1 - gone));
            if (reached < 0) {
                break;
            }
            at = reached;
            gone++;
        }
        return what == 0 ? gone : town.ends.home[at];
    }

    public int keep() {
        if (keptNow >= KEPT_LIMIT) {
            return FULL;
        }
        keptTexts[keptNow].takeOver(laid);
        keptDoubts[keptNow] = doubted;
        keptNow++;
        return keptNow;
    }

    public int back() {
        if (keptNow < 1 || keptNow > KEPT_LIMIT) {
            return NO;
        }
        keptNow--;
        layAnew(keptTexts[keptNow], keptDoubts[keptNow]);
        return keptNow;
    }

    public int count(int what) {
        switch (what) {
            case 0:
                return text.length;
            case 1:
                return laid.walks;
            case 2:
                return laid.allTurnings();
            case 3:
                return Integer.bitCount(doubted);
            case 4:
                return keptNow;
            default:
                return BAD;
        }
    }

    private static boolean isThing(int thing) {
        return thing >= 0 && thing < THING_LIMIT;
    }

    /** A bit above the n turnings belongs to none of them, so such a v tells no n turnings. */
    private static boolean isTurnings(long v, int n) {
        for (int i = 0; i < n; i++) {
            if (turningIn(v, i) > TURNING_LIMIT) {
                return false;
            }
        }
        return v >>> 4 * n == 0;
    }

    private static int turningIn(long v, int fromTheLowest) {
        return (int) (v >> 4 * fromTheLowest) & 15;
    }

    private int allWalks() {
        return (1 << laid.walks) - 1;
    }

    private void layAnew(Text from, int doubts) {
        laid.takeOver(from);
        laid.findWalks();
        doubted = doubts;
        settled = false;
        fewestDoubts = UNKNOWN;
    }

    /** The town is made only when it is asked for, and then once until something changes. */
    private int settle() {
        if (!settled) {
            int walks = allWalks() & ~doubted;
            town.barringWalk = tale.tell(laid, walks);
            town.standing = town.barringWalk != NONE ? NO : town.numberAll(tale, laid, walks);
            joins.forgetAnswers();
            settled = true;
        }
        return town.standing;
    }

    /** What bars in small bars in large, so walks that clash by twos spare most of the sets. */
    private void findClashes() {
        for (int a = 0; a < laid.walks; a++) {
            clash[a] = 0;
            for (int b = 0; b <= a; b++) {
                if (tale.tell(laid, 1 << a | 1 << b) != NONE) {
                    clash[a] |= 1 << b;
                }
            }
        }
    }

    private int firstSetThatHelps() {
        int all = allWalks();
        for (int size = 1; size < laid.walks; size++) {
            for (int set = 1; set < all; set++) {
                int rest = all & ~set;
                if (Integer.bitCount(set) == size && !holdsClash(rest)
                        && tale.tell(laid, rest) == NONE) {
                    return set;
                }
            }
        }
        return all;
    }

    private boolean holdsClash(int walks) {
        for (int a = 0; a < laid.walks; a++) {
            if ((walks >> a & 1) != 0 && (clash[a] & walks) != 0) {
                return true;
            }
        }
        return false;
    }

    /** Bytes, and where their walks are once they are known to have no fault. */
    private static final class Text {
        final byte[] bytes = new byte[TEXT_LIMIT];
        final int[] start = new int[WALK_LIMIT + 1];
        final int[] turnings = new int[WALK_LIMIT];
        int length;
        int walks;

        void append(byte b) {
            if (length < TEXT_LIMIT) {
                bytes[length] = b;
                length++;
            }
        }

        void takeOver(Text other) {
            System.arraycopy(other.bytes, 0, bytes, 0, other.length);
            length = other.length;
        }

        int firstFault() {
            int begun = 0;
            int taken = 0;
            int wants = WANTS_WALK;
            for (int at = 0; at < length; at++) {
                int c = bytes[at];
                if (!canStand(wants, c, taken) || wants == WANTS_WALK && begun == WALK_LIMIT) {
                    return at;
                }
                if (wants == WANTS_WALK) {
                    begun++;
                    taken = 0;
                } else if (wants == WANTS_TOKEN && isBetween(c, '0', '5')) {
                    taken++;
                }
                wants = wantedBehind(wants, c);
            }
            return wants == WANTS_WALK ? NONE : length;
        }

        static boolean canStand(int wants, int c, int taken) {
            switch (wants) {
                case WANTS_WALK:
                    return isBetween(c, 'a', 'h');
                case WANTS_TOKEN:
                    return isBetween(c, 'a', 'h') || isBetween(c, '0', '5')
                            || c == '#' || c == '=' || c == '!' || c == ';';
                case WANTS_OFFSET:
                    return isBetween(c, '0', '5');
                case WANTS_LANES:
                    return isBetween(c, '1', '6');
                default:
                    return isBetween(c, '0', '9') && c - '0' <= taken;
            }
        }

        static int wantedBehind(int wants, int c) {
            if (wants != WANTS_TOKEN) {
                return WANTS_TOKEN;
            }
            switch (c) {
                case ';':
                    return WANTS_WALK;
                case '#':
                    return WANTS_LANES;
                case '=':
                case '!':
                    return WANTS_VISIT;
                default:
                    return isBetween(c, 'a', 'h') ? WANTS_OFFSET : WANTS_TOKEN;
            }
        }

        static boolean isBetween(int c, char low, char high) {
            return c >= low && c <= high;
        }

        /** For a text without fault: a walk ends at its ; and no other token has that byte. */
        void findWalks() {
            walks = 0;
            start[0] = 0;
            turnings[0] = 0;
            for (int at = 0; at < length && walks < WALK_LIMIT; at++) {
                if (isTurning(walks, at)) {
                    turnings[walks]++;
                } else if (bytes[at] == ';') {
                    walks++;
                    start[walks] = at + 1;
                    if (walks < WALK_LIMIT) {
                        turnings[walks] = 0;
                    }
                }
            }
        }

        boolean isFigure(int at) {
            return at >= 0 && at < length && isBetween(bytes[at], '0', '9');
        }

        /** A figure is a turning unless it is the second byte of a token. */
        boolean isTurning(int walk, int at) {
            return isFigure(at) && (isFigure(at - 1) || at - 1 == start[walk]);
        }

        int allTurnings() {
            int sum = 0;
            for (int walk = 0; walk < walks; walk++) {
                sum += turnings[walk];
            }
            return sum;
        }
    }

    /** Ends of lanes, each with those next on, next back and across, and the places they are at. */
    private static final class Ends {
        final int[] root;
        final int[] fellow;
        final int[] weight;
        final int[] on;
        final int[] before;
        final int[] mate;
        final int[] home;
        final int[] absorbed;
        final int[] place;
        int used;
        int places;
        int waiting;

        Ends(int endLimit, int placeLimit) {
            root = new int[endLimit];
            fellow = new int[endLimit];
            weight = new int[endLimit];
            on = new int[endLimit];
            before = new int[endLimit];
            mate = new int[endLimit];
            home = new int[endLimit];
            absorbed = new int[endLimit];
            place = new int[placeLimit];
        }

        void dropAll() {
            used = 0;
            places = 0;
            waiting = 0;
        }

        void copyFrom(Ends other) {
            int n = Math.min(other.used, root.length);
            System.arraycopy(other.root, 0, root, 0, n);
            System.arraycopy(other.fellow, 0, fellow, 0, n);
            System.arraycopy(other.weight, 0, weight, 0, n);
            System.arraycopy(other.on, 0, on, 0, n);
            System.arraycopy(other.before, 0, before, 0, n);
            System.arraycopy(other.mate, 0, mate, 0, n);
            System.arraycopy(other.home, 0, home, 0, n);
            used = n;
            places = Math.min(other.places, place.length);
            System.arraycopy(other.place, 0, place, 0, places);
            waiting = 0;
        }

        int addPlace() {
            if (places >= place.length) {
                return -1;
            }
            place[places] = places;
            places++;
            return places - 1;
        }

        int addEnd(int where) {
            if (where < 0 || where >= places || used >= root.length) {
                return -1;
            }
            int end = used;
            used++;
            root[end] = end;
            fellow[end] = end;
            weight[end] = 1;
            on[end] = -1;
            before[end] = -1;
            mate[end] = -1;
            home[end] = where;
            return end;
        }

        boolean holds(int end) {
            return end >= 0 && end < used;
        }

        /** The end so many steps on; those on the way that nobody told before are told by this. */
        int tellOn(int end, int steps) {
            if (!holds(end)) {
                return -1;
            }
            int at = root[end];
            for (int i = 0; i < steps; i++) {
                if (on[at] < 0) {
                    int fresh = addEnd(home[at]);
                    if (fresh < 0) {
                        return -1;
                    }
                    on[at] = fresh;
                    before[fresh] = at;
                }
                at = root[on[at]];
            }
            return at;
        }

        /** The other end of the lane, told by this if nobody took the lane before. */
        int tellAcross(int end) {
            if (!holds(end)) {
                return -1;
            }
            int at = root[end];
            if (mate[at] < 0) {
                int fresh = addEnd(addPlace());
                if (fresh < 0) {
                    return -1;
                }
                mate[at] = fresh;
                mate[fresh] = at;
            }
            return root[mate[at]];
        }

        /** Two ends become one, and so does all that then must be one. */
        void makeOne(int a, int b) {
            if (!holds(a) || !holds(b)) {
                return;
            }
            waiting = 0;
            unite(a, b);
            for (int done = 0; done < waiting && done < used; done++) {
                int gone = absorbed[done];
                for (int link = 0; link < 3; link++) {
                    int[] row = link == 0 ? on : link == 1 ? before : mate;
                    int heir = root[gone];
                    if (row[gone] >= 0 && row[heir] >= 0) {
                        unite(row[heir], row[gone]);
                    } else if (row[gone] >= 0) {
                        row[heir] = row[gone];
                    }
                }
            }
        }

        private void unite(int a, int b) {
            int stays = root[a];
            int goes = root[b];
            if (stays == goes || waiting >= absorbed.length) {
                return;
            }
            // The smaller class is renamed, so that long rows of unions stay cheap.
            if (weight[stays] < weight[goes]) {
                stays = root[b];
                goes = root[a];
            }
            int end = goes;
            for (int i = 0; i < weight[goes]; i++) {
                root[end] = stays;
                end = fellow[end];
            }
            int link = fellow[stays];
            fellow[stays] = fellow[goes];
            fellow[goes] = link;
            weight[stays] += weight[goes];
            absorbed[waiting] = goes;
            waiting++;
            int lost = place[home[goes]];
            int won = place[home[stays]];
            for (int i = 0; i < places && lost != won; i++) {
                if (place[i] == lost) {
                    place[i] = won;
                }
            }
        }

        boolean areOne(int a, int b) {
            return a >= 0 && b >= 0 && a < used && b < used && root[a] == root[b];
        }

        boolean areAtOnePlace(int a, int b) {
            return a >= 0 && b >= 0 && a < used && b < used && place[home[a]] == place[home[b]];
        }

        boolean hasLaneOfOneEnd() {
            for (int end = 0; end < used; end++) {
                if (root[end] == end && mate[end] >= 0 && root[mate[end]] == end) {
                    return true;
                }
            }
            return false;
        }

        boolean goesRoundIn(int end, int steps) {
            if (!holds(end)) {
                return false;
            }
            int at = root[end];
            for (int i = 1; i <= steps; i++) {
                if (on[at] < 0) {
                    return false;
                }
                at = root[on[at]];
                if (at == root[end]) {
                    return i == steps;
                }
            }
            return false;
        }

        int placesLeft() {
            int left = 0;
            for (int i = 0; i < places; i++) {
                if (place[i] == i) {
                    left++;
                }
            }
            return left;
        }
    }

    /** What the walks say that making ends one can't show, only contradict. */
    private static final class Claims {
        final int[] turnFrom;
        final int[] turnTo;
        final int[] roundEnd;
        final int[] roundLanes;
        final int[] apartOne;
        final int[] apartOther;
        final int[] firstEnd = new int[THING_LIMIT];
        int turns;
        int rounds;
        int aparts;

        Claims(int limit) {
            turnFrom = new int[limit];
            turnTo = new int[limit];
            roundEnd = new int[limit];
            roundLanes = new int[limit];
            apartOne = new int[limit];
            apartOther = new int[limit];
        }

        void dropClaims() {
            turns = 0;
            rounds = 0;
            aparts = 0;
            Arrays.fill(firstEnd, -1);
        }

        void addTurn(int from, int to) {
            if (turns < turnFrom.length) {
                turnFrom[turns] = from;
                turnTo[turns] = to;
                turns++;
            }
        }

        void addRound(int end, int lanes) {
            if (rounds < roundEnd.length) {
                roundEnd[rounds] = end;
                roundLanes[rounds] = lanes;
                rounds++;
            }
        }

        void addApart(int one, int other) {
            if (aparts < apartOne.length) {
                apartOne[aparts] = one;
                apartOther[aparts] = other;
                aparts++;
            }
        }

        boolean barIn(Ends ends) {
            for (int i = 0; i < turns; i++) {
                if (ends.areOne(turnFrom[i], turnTo[i])) {
                    return true;
                }
            }
            for (int i = 0; i < rounds; i++) {
                if (!ends.goesRoundIn(roundEnd[i], roundLanes[i])) {
                    return true;
                }
            }
            for (int i = 0; i < aparts; i++) {
                if (ends.areAtOnePlace(apartOne[i], apartOther[i])) {
                    return true;
                }
            }
            for (int a = 1; a < THING_LIMIT; a++) {
                for (int b = 0; b < a; b++) {
                    if (ends.areAtOnePlace(firstEnd[a], firstEnd[b])) {
                        return true;
                    }
                }
            }
            return ends.hasLaneOfOneEnd();
        }
    }

    /** Walks told one behind the other: all their ends, not yet numbered. */
    private static final class Tale {
        final Ends ends = new Ends(LOOSE_LIMIT, TEXT_LIMIT);
        final Claims claims = new Claims(TEXT_LIMIT);
        // The end by which one came with i lanes taken stands at the walk's start + i:
        // a walk has more bytes than visits, so that no two walks meet.
        final int[] visit = new int[TEXT_LIMIT];

        /** The walk with which they bar, or NONE; those behind it are not told then. */
        int tell(Text text, int walks) {
            ends.dropAll();
            claims.dropClaims();
            for (int walk = 0; walk < text.walks; walk++) {
                if ((walks >> walk & 1) != 0) {
                    tellWalk(text, walk);
                    if (claims.barIn(ends)) {
                        return walk;
                    }
                }
            }
            return NONE;
        }

        private void tellWalk(Text text, int walk) {
            int start = text.start[walk];
            int came = firstEndOf(text.bytes[start] - 'a');
            int taken = 0;
            visit[start] = came;
            for (int at = start + 1; at < text.start[walk + 1]; at++) {
                int figure = text.bytes[at] - '0';
                if (text.isTurning(walk, at)) {
                    came = takeLane(came, figure);
                    taken++;
                    visit[start + taken] = came;
                } else if (text.isFigure(at)) {
                    tellFact(text.bytes[at - 1], figure, came, start);
                }
            }
        }

        private int firstEndOf(int thing) {
            if (!isThing(thing)) {
                return -1;
            }
            if (claims.firstEnd[thing] < 0) {
                claims.firstEnd[thing] = ends.addEnd(ends.addPlace());
            }
            return claims.firstEnd[thing];
        }

        private int takeLane(int came, int turning) {
            int out = ends.tellOn(came, turning);
            if (turning > 0) {
                claims.addTurn(came, out);
            }
            return ends.tellAcross(out);
        }

        private void tellFact(int kind, int figure, int came, int start) {
            switch (kind) {
                case '#':
                    ends.makeOne(ends.tellOn(came, figure), came);
                    claims.addRound(came, figure);
                    break;
                case '=':
                    ends.makeOne(visit[start + figure], came);
                    break;
                case '!':
                    claims.addApart(visit[start + figure], came);
                    break;
                default:
                    ends.makeOne(ends.tellOn(firstEndOf(kind - 'a'), figure), came);
                    break;
            }
        }
    }

    /** The town with its corners numbered; a corner's ends stand together, in turning order. */
    private static final class Town {
        final Ends ends = new Ends(END_LIMIT, CORNER_LIMIT);
        final Claims claims = new Claims(END_LIMIT);
        final int[] first = new int[CORNER_LIMIT + 1];
        final int[] round = new int[CORNER_LIMIT];
        final int[] cornerAt = new int[TEXT_LIMIT];
        final int[] numberOf = new int[LOOSE_LIMIT];
        final int[] claimed = new int[CORNER_LIMIT * CORNER_LIMIT];
        final int[] queue = new int[END_LIMIT];
        final int[] wayFrom = new int[END_LIMIT];
        final int[] wayTurning = new int[END_LIMIT];
        final int[] wayLength = new int[END_LIMIT];
        final int[] part = new int[CORNER_LIMIT];
        int cornersNow;
        int standing;
        int barringWalk;

        int numberAll(Tale tale, Text text, int walks) {
            ends.dropAll();
            claims.dropClaims();
            cornersNow = 0;
            first[0] = 0;
            Arrays.fill(numberOf, 0, tale.ends.used, -1);
            for (int walk = 0; walk < text.walks; walk++) {
                int visits = (walks >> walk & 1) != 0 ? text.turnings[walk] + 1 : 0;
                for (int at = text.start[walk]; visits > 0; visits--, at++) {
                    int end = tale.ends.holds(tale.visit[at]) ? tale.ends.root[tale.visit[at]] : -1;
                    if (end < 0 || numberOf[end] < 0 && !numberCorner(tale.ends, end)) {
                        return FULL;
                    }
                    cornerAt[at] = ends.home[numberOf[end]];
                }
            }
            numberLanes(tale.ends);
            numberClaims(tale);
            return STANDS;
        }

        /** Whether there was room for the corner. */
        private boolean numberCorner(Ends loose, int end) {
            int corner = ends.addPlace();
            if (corner < 0) {
                return false;
            }
            int at = firstOf(loose, end);
            int last = -1;
            round[corner] = 0;
            for (int i = 0; i < loose.used; i++) {
                int number = ends.addEnd(corner);
                if (number < 0) {
                    return false;
                }
                numberOf[at] = number;
                follow(last, number);
                last = number;
                if (loose.on[at] < 0) {
                    break;
                }
                at = loose.root[loose.on[at]];
                if (numberOf[at] >= 0) {
                    round[corner] = 1;
                    follow(last, numberOf[at]);
                    break;
                }
            }
            cornersNow = corner + 1;
            first[cornersNow] = ends.used;
            return true;
        }

        private void follow(int end, int next) {
            if (ends.holds(end) && ends.holds(next)) {
                ends.on[end] = next;
                ends.before[next] = end;
            }
        }

        /** The end at a corner that has none next back; any one, if it goes round. */
        private static int firstOf(Ends loose, int end) {
            int at = end;
            for (int i = 0; i < loose.used && loose.before[at] >= 0; i++) {
                at = loose.root[loose.before[at]];
                if (at == end) {
                    break;
                }
            }
            return at;
        }

        private void numberLanes(Ends loose) {
            for (int end = 0; end < loose.used; end++) {
                int number = numberOf[end];
                if (number >= 0 && loose.mate[end] >= 0) {
                    ends.mate[number] = numberOf[loose.root[loose.mate[end]]];
                }
            }
        }

        private int numberedEnd(Tale tale, int end) {
            return tale.ends.holds(end) ? numberOf[tale.ends.root[end]] : -1;
        }

        /** A claim of a kind is needed once for each corner, or two: the tries ask them often. */
        private void numberClaims(Tale tale) {
            Claims loose = tale.claims;
            for (int thing = 0; thing < THING_LIMIT; thing++) {
                claims.firstEnd[thing] = numberedEnd(tale, loose.firstEnd[thing]);
            }
            Arrays.fill(claimed, 0);
            for (int i = 0; i < loose.turns; i++) {
                int from = numberedEnd(tale, loose.turnFrom[i]);
                int to = numberedEnd(tale, loose.turnTo[i]);
                if (isNewClaim(from, stepsBetween(from, to))) {
                    claims.addTurn(from, to);
                }
            }
            Arrays.fill(claimed, 0);
            for (int i = 0; i < loose.rounds; i++) {
                int end = numberedEnd(tale, loose.roundEnd[i]);
                if (isNewClaim(end, 0)) {
                    claims.addRound(end, loose.roundLanes[i]);
                }
            }
            Arrays.fill(claimed, 0);
            for (int i = 0; i < loose.aparts; i++) {
                int one = numberedEnd(tale, loose.apartOne[i]);
                int other = numberedEnd(tale, loose.apartOther[i]);
                if (ends.holds(other) && isNewClaim(one, ends.home[other])) {
                    claims.addApart(one, other);
                }
            }
        }

        private boolean isNewClaim(int end, int which) {
            if (!ends.holds(end) || which < 0 || which >= CORNER_LIMIT) {
                return false;
            }
            int key = ends.home[end] * CORNER_LIMIT + which;
            if (claimed[key] != 0) {
                return false;
            }
            claimed[key] = 1;
            return true;
        }

        private int stepsBetween(int from, int to) {
            int at = from;
            for (int steps = 1; steps <= TURNING_LIMIT && ends.holds(at); steps++) {
                at = ends.on[at];
                if (at == to) {
                    return steps;
                }
            }
            return -1;
        }

        boolean isCorner(int corner) {
            return corner >= 0 && corner < cornersNow;
        }

        int knownLanes(int corner) {
            return first[corner + 1] - first[corner];
        }

        int thingAt(int corner) {
            for (int thing = 0; thing < THING_LIMIT; thing++) {
                int end = claims.firstEnd[thing];
                if (end >= 0 && ends.home[end] == corner) {
                    return thing;
                }
            }
            return NONE;
        }

        int openEnds(int corner) {
            int open = 0;
            for (int end = first[corner]; end < first[corner + 1]; end++) {
                if (ends.mate[end] < 0) {
                    open++;
                }
            }
            return open;
        }

        int lanes() {
            int open = 0;
            for (int corner = 0; corner < cornersNow; corner++) {
                open += openEnds(corner);
            }
            return (ends.used - open) / 2;
        }

        int parts() {
            for (int corner = 0; corner < cornersNow; corner++) {
                part[corner] = corner;
            }
            int left = cornersNow;
            for (int end = 0; end < ends.used; end++) {
                if (ends.mate[end] >= 0) {
                    left -= joinParts(part[ends.home[end]], part[ends.home[ends.mate[end]]]);
                }
            }
            return left;
        }

        private int joinParts(int a, int b) {
            if (a == b) {
                return 0;
            }
            for (int corner = 0; corner < cornersNow; corner++) {
                if (part[corner] == b) {
                    part[corner] = a;
                }
            }
            return 1;
        }

        /** No part can have more than 2, so all parts have 2 if their sum is twice their number. */
        boolean isFlat() {
            int sum = cornersNow - lanes() + faces();
            for (int corner = 0; corner < cornersNow; corner++) {
                if (openEnds(corner) == knownLanes(corner)) {
                    sum++;
                }
            }
            return sum == 2 * parts();
        }

        private int faces() {
            int found = 0;
            Arrays.fill(queue, 0, ends.used, 0);
            for (int end = 0; end < ends.used; end++) {
                if (ends.mate[end] < 0 || queue[end] != 0) {
                    continue;
                }
                found++;
                int at = end;
                for (int i = 0; i < ends.used && queue[at] == 0; i++) {
                    queue[at] = 1;
                    at = nextLane(ends.mate[at]);
                }
            }
            return found;
        }

        private int nextLane(int end) {
            int corner = ends.home[end];
            int at = end;
            for (int i = 0; i < knownLanes(corner); i++) {
                at = at + 1 < first[corner + 1] ? at + 1 : first[corner];
                if (ends.mate[at] >= 0) {
                    return at;
                }
            }
            return end;
        }

        /** The end by which one comes then, or -1 if that can't be gone. */
        int turned(int came, int turning) {
            int out = came;
            for (int i = 0; i < turning && out >= 0; i++) {
                out = ends.on[out];
            }
            if (out < 0 || turning > 0 && out == came) {
                return -1;
            }
            return ends.mate[out];
        }

        /** The end by which the shortest way comes to a corner, or -1. */
        int findWay(int from, int corner) {
            Arrays.fill(wayLength, 0, ends.used, -1);
            wayLength[from] = 0;
            queue[0] = from;
            int waiting = 1;
            // Ways wait in the order of their turnings, so the first that comes has the lowest.
            for (int done = 0; done < waiting && done < END_LIMIT; done++) {
                int at = queue[done];
                if (ends.home[at] == corner) {
                    return at;
                }
                for (int turning = 1; turning <= TURNING_LIMIT; turning++) {
                    int reached = turned(at, turning);
                    if (reached >= 0 && wayLength[reached] < 0 && waiting < END_LIMIT) {
                        wayLength[reached] = wayLength[at] + 1;
                        wayFrom[reached] = at;
                        wayTurning[reached] = turning;
                        queue[waiting] = reached;
                        waiting++;
                    }
                }
            }
            return -1;
        }

        int turningOfWay(int reached, int fromTheLast) {
            int at = reached;
            for (int i = 0; i < fromTheLast; i++) {
                at = wayFrom[at];
            }
            return wayTurning[at];
        }
    }

    /** Tries of what could be one in a town that stands. */
    private static final class Joins {
        private static final int CAN = 1;
        private static final int NEVER = 2;

        final Town town;
        final Ends trial = new Ends(END_LIMIT, CORNER_LIMIT);
        final int[] verdict = new int[CORNER_LIMIT * CORNER_LIMIT];
        final int[] tryOne = new int[SMALL_TRIES];
        final int[] tryOther = new int[SMALL_TRIES];
        final int[] chosen = new int[SMALL_CORNERS];
        int tries;
        int least;

        Joins(Town town) {
            this.town = town;
        }

        void forgetAnswers() {
            Arrays.fill(verdict, 0);
            least = UNKNOWN;
        }

        boolean canBeOne(int a, int b) {
            if (!town.isCorner(a) || !town.isCorner(b)) {
                return false;
            }
            int key = a * CORNER_LIMIT + b;
            if (verdict[key] == 0) {
                verdict[key] = tryPair(a, b) ? CAN : NEVER;
            }
            return verdict[key] == CAN;
        }

        /**
         * Making any two ends one lays the corners on one another with some first end on the
         * other's ends, so the tries with a first end are all there are.
         */
        private boolean tryPair(int a, int b) {
            int firstA = town.first[a];
            int firstB = town.first[b];
            for (int end = firstB; end < town.first[b + 1]; end++) {
                if (tryOnly(firstA, end)) {
                    return true;
                }
            }
            for (int end = firstA + 1; end < town.first[a + 1]; end++) {
                if (tryOnly(end, firstB)) {
                    return true;
                }
            }
            return false;
        }

        private boolean tryOnly(int one, int other) {
            trial.copyFrom(town.ends);
            trial.makeOne(one, other);
            return !town.claims.barIn(trial);
        }

        int fewestCorners() {
            if (least == UNKNOWN) {
                gatherTries();
                least = search(0, 0, town.cornersNow, town.cornersNow);
            }
            return least;
        }

        /** What bars alone bars with others, so only tries that stand alone are gathered. */
        private void gatherTries() {
            tries = 0;
            for (int a = 0; a < town.cornersNow; a++) {
                for (int b = a + 1; b < town.cornersNow; b++) {
                    for (int end = town.first[b]; end < town.first[b + 1]; end++) {
                        gather(town.first[a], end);
                    }
                    for (int end = town.first[a] + 1; end < town.first[a + 1]; end++) {
                        gather(end, town.first[b]);
                    }
                }
            }
        }

        private void gather(int one, int other) {
            if (tries < SMALL_TRIES && tryOnly(one, other)) {
                tryOne[tries] = one;
                tryOther[tries] = other;
                tries++;
            }
        }

        /**
         * Each try that helps makes corners fewer, and ends of one corner made one never help:
         * corners become one only where ends of two of them do.
         */
        private int search(int from, int depth, int now, int best) {
            int found = best;
            for (int i = from; i < tries && depth < SMALL_CORNERS && found > 1; i++) {
                chosen[depth] = i;
                int left = cornersWithChosen(depth + 1);
                if (left < now) {
                    found = search(i + 1, depth + 1, left, Math.min(found, left));
                }
            }
            return found;
        }

        /** All of them, if the chosen ones bar. */
        private int cornersWithChosen(int n) {
            trial.copyFrom(town.ends);
            for (int i = 0; i < n; i++) {
                trial.makeOne(tryOne[chosen[i]], tryOther[chosen[i]]);
            }
            return town.claims.barIn(trial) ? town.cornersNow : trial.placesLeft();
        }
    }
}
