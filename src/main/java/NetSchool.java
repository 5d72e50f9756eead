import java.util.Arrays;
import java.util.NoSuchElementException;

/** A school of net doctors: a net, faults that break it, looks that tell of it, and lessons. */
public final class NetSchool {
    public static final int NONE = -1;

    private static final int NO_LESSON = -2;
    private static final int NOT_AGAIN = -3;
    private static final int NOT_PARTED = -3;

    private static final int MAX_NODES = 12;
    private static final int MAX_PAIRS = MAX_NODES * MAX_NODES;
    private static final int MAX_LINES = 20;
    private static final int MAX_NAMES = 6;
    private static final int MAX_SERVICES = 4;
    private static final int MAX_ENTRIES = 12;
    private static final int MAX_SETS = 1 << MAX_ENTRIES;
    private static final int MAX_STEPS = 30;
    private static final int MAX_PRICE = 100;

    private static final int KIND_HOST = 0;
    private static final int KIND_ROUTER = 2;
    private static final int KIND_WALL = 3;

    private static final int FAULT_CABLE = 0;
    private static final int FAULT_ADDRESS = 1;
    private static final int FAULT_NAME = 2;
    private static final int FAULT_WALL = 3;
    private static final int FAULT_ROUTE = 4;
    private static final int FAULT_SERVICE = 5;

    private static final int LOOK_PING = 0;
    private static final int LOOK_TRACE = 1;
    private static final int LOOK_CALL = 2;
    private static final int LOOK_TABLE = 3;
    private static final int LOOK_CABLE = 4;

    private static final int PING_SERVICE = 0;
    private static final int NAMER_SERVICE = 1;
    private static final int ALL_SERVICES = (1 << MAX_SERVICES) - 1;

    private static final int MEND_MINUTES = 5;
    private static final int CLAIM_MINUTES = 10;

    private static final int FIELD_KIND = 0;
    private static final int FIELD_A = 1;
    private static final int FIELD_B = 2;
    private static final int FIELD_C = 3;
    private static final int FIELD_PRICE = 4;
    private static final int FIELDS = 5;

    private final Plan plan;
    private final Setting sound;
    private final Setting broken;
    private final Post post;
    private final Entries faults;
    private final Entries causes;
    private final Entries looks;
    private final Teller teller;
    private final Table table;
    private final Lesson lesson;
    private final Row told;

    public NetSchool() {
        plan = new Plan();
        sound = new Setting();
        broken = new Setting();
        post = new Post(plan);
        faults = new Entries();
        causes = new Entries();
        looks = new Entries();
        teller = new Teller(plan, post, looks);
        table = new Table();
        lesson = new Lesson();
        told = new Row();
    }

    // ---- the net

    public int node(int kind) {
        return kept(plan.addNode(kind));
    }

    public int line(int a, int b) {
        return kept(plan.addLine(a, b));
    }

    public boolean route(int node, int host, int next) {
        boolean fits = plan.isGate(node) && plan.isHost(host) && next != node;
        if (!fits || next != NONE && !plan.isNode(next)) {
            return false;
        }
        sound.setRoute(node, host, next);
        changed();
        return true;
    }

    public boolean deny(int wall, int host, int service, boolean is) {
        if (!plan.isWall(wall) || !plan.isHost(host) || !isService(service)) {
            return false;
        }
        sound.setDenied(wall, host, service, is);
        changed();
        return true;
    }

    public boolean on(int host, int service, boolean is) {
        if (!plan.isHost(host) || !isService(service)) {
            return false;
        }
        sound.setOn(host, service, is);
        changed();
        return true;
    }

    public boolean name(int name, int host) {
        if (!isName(name) || host != NONE && !plan.isHost(host)) {
            return false;
        }
        sound.setName(name, host);
        changed();
        return true;
    }

    public boolean namer(int host) {
        if (host != NONE && !plan.isHost(host)) {
            return false;
        }
        sound.setNamer(host);
        changed();
        return true;
    }

    public int clear() {
        int nodes = plan.nodeCount();
        plan.reset();
        sound.reset();
        faults.reset();
        causes.reset();
        looks.reset();
        told.reset();
        changed();
        return nodes;
    }

    public int count(int what) {
        switch (what) {
            case 0:
                return plan.nodeCount();
            case 1:
                return plan.lineCount();
            case 2:
                return faults.size();
            case 3:
                return causes.size();
            case 4:
                return looks.size();
            case 5:
                return told.size();
            case 6:
                return lesson.isGoing() ? 1 : 0;
            default:
                return NONE;
        }
    }

    public int next(int node, int to, int what) {
        if (!plan.isNode(node) || !plan.isNode(to) || node == to) {
            return NONE;
        }
        if (what == 0) {
            return post.nextOf(sound, node, to);
        }
        return what == 1 ? plan.nearestOf(node, to) : NONE;
    }

    // ---- faults, causes, looks

    public int fault(int kind, int a, int b, int c) {
        return isFaultOfKind(kind, a, b, c) ? kept(faults.add(kind, a, b, c, 0)) : NONE;
    }

    public int cause(int first, int second) {
        boolean fits = faults.has(first) && first != second && (second == NONE || faults.has(second));
        return fits ? kept(causes.add(0, first, second, 0, 0)) : NONE;
    }

    public int look(int kind, int a, int b, int c, int price) {
        boolean fits = price >= 1 && price <= MAX_PRICE && isLookOfKind(kind, a, b, c);
        return fits ? kept(looks.add(kind, a, b, c, price)) : NONE;
    }

    public int answer(int look, int cause) throws NoSuchElementException {
        if (!looks.has(look) || !isCauseOrNone(cause)) {
            throw new NoSuchElementException("no such look or cause");
        }
        breakBy(cause, 0);
        return teller.tell(look, broken);
    }

    public int goes(int cause, int service, int a, int b) {
        if (!isCauseOrNone(cause) || !isService(service) || !isTwoHosts(a, b)) {
            return NONE;
        }
        breakBy(cause, 0);
        post.carry(broken, service, a, b);
        told.reset();
        for (int i = 0; i < post.pathLength(); i++) {
            told.add(post.pathNode(i));
        }
        return told.size();
    }

    public int unlike(int a, int b) {
        if (!causes.has(a) || !causes.has(b)) {
            return NONE;
        }
        prepare();
        return table.looksThatPart(a, b);
    }

    public int fair() {
        prepare();
        for (int a = 0; a < causes.size(); a++) {
            for (int b = a + 1; b < causes.size(); b++) {
                if (table.looksThatPart(a, b) == 0) {
                    told.reset();
                    told.add(a);
                    told.add(b);
                    return 1;
                }
            }
        }
        return 0;
    }

    public int groups(int look) {
        if (!looks.has(look)) {
            return NONE;
        }
        prepare();
        return table.groupsOf(look, causes.allBits());
    }

    public int worst(int set) {
        if (!isSetOfCauses(set)) {
            return NONE;
        }
        prepare();
        return table.leastCost(set);
    }

    public int tells(int set) {
        if (!isSetOfCauses(set)) {
            return NONE;
        }
        prepare();
        return table.mostTelling(set);
    }

    public int first(int set) {
        if (!isSetOfCauses(set)) {
            return NONE;
        }
        prepare();
        return table.firstOfBestWay(set);
    }

    // ---- a lesson

    public boolean begin(int cause) {
        if (!causes.has(cause)) {
            return false;
        }
        lesson.start(cause, causes.allBits());
        return true;
    }

    public int use(int look) {
        if (!lesson.isGoing() || !looks.has(look)) {
            return NO_LESSON;
        }
        prepare();
        lesson.noteLook(looks.get(look, FIELD_PRICE), table.alikeTo(look, lesson.itsCause()));
        breakBy(lesson.itsCause(), lesson.mendedFaults());
        return teller.tell(look, broken);
    }

    public int left() {
        return lesson.isGoing() ? lesson.possible() : NO_LESSON;
    }

    public int mend(int fault) {
        if (!lesson.isGoing() || !faults.has(fault)) {
            return NO_LESSON;
        }
        if (lesson.isMended(fault)) {
            return NOT_AGAIN;
        }
        lesson.noteMend(fault);
        return unmended(causes.get(lesson.itsCause(), FIELD_A))
            + unmended(causes.get(lesson.itsCause(), FIELD_B));
    }

    public int well() {
        if (!lesson.isGoing()) {
            return NO_LESSON;
        }
        breakBy(lesson.itsCause(), lesson.mendedFaults());
        for (int look = 0; look < looks.size(); look++) {
            if (teller.tell(look, broken) != teller.tell(look, sound)) {
                return 0;
            }
        }
        return 1;
    }

    public int claim(int cause) {
        if (!lesson.isGoing() || !causes.has(cause)) {
            return NO_LESSON;
        }
        if (cause == lesson.itsCause()) {
            return NONE;
        }
        lesson.noteWrongClaim();
        prepare();
        int parting = table.looksThatPart(cause, lesson.itsCause());
        return parting == 0 ? NOT_PARTED : lowestBit(parting);
    }

    public int mark(int what) {
        if (!lesson.isGoing()) {
            return NO_LESSON;
        }
        switch (what) {
            case 0:
                return lesson.minutesSpent();
            case 1:
                return lesson.looksUsed();
            case 2:
                return lesson.looksThatTold();
            case 3:
                return lesson.wrongClaims();
            case 4:
                return Integer.bitCount(lesson.mendedFaults());
            case 5:
                prepare();
                return table.leastCost(causes.allBits());
            default:
                return NO_LESSON;
        }
    }

    public int row(int i) throws NoSuchElementException {
        if (i < 0 || i >= told.size()) {
            throw new NoSuchElementException("no such number of the row");
        }
        return told.get(i);
    }

    // ---- what the calls share

    private static boolean isService(int service) {
        return service >= 0 && service < MAX_SERVICES;
    }

    private static boolean isName(int name) {
        return name >= 0 && name < MAX_NAMES;
    }

    private boolean isTwoHosts(int a, int b) {
        return plan.isHost(a) && plan.isHost(b) && a != b;
    }

    private boolean isCauseOrNone(int cause) {
        return cause == NONE || causes.has(cause);
    }

    private boolean isSetOfCauses(int set) {
        return set > 0 && set <= causes.allBits();
    }

    private boolean isFaultOfKind(int kind, int a, int b, int c) {
        switch (kind) {
            case FAULT_CABLE:
                return plan.isLine(a);
            case FAULT_ADDRESS:
                return plan.isHost(a);
            case FAULT_NAME:
                return isName(a) && plan.isHost(b);
            case FAULT_WALL:
                return plan.isWall(a) && plan.isHost(b) && isService(c);
            case FAULT_ROUTE:
                return plan.isGate(a) && plan.isHost(b) && plan.isNode(c) && c != a;
            case FAULT_SERVICE:
                return plan.isHost(a) && isService(b);
            default:
                return false;
        }
    }

    private boolean isLookOfKind(int kind, int a, int b, int c) {
        switch (kind) {
            case LOOK_PING:
            case LOOK_TRACE:
                return isTwoHosts(a, b);
            case LOOK_CALL:
                return plan.isHost(a) && isName(b) && isService(c);
            case LOOK_TABLE:
                return plan.isGate(a) && plan.isHost(b);
            case LOOK_CABLE:
                return plan.isLine(a);
            default:
                return false;
        }
    }

    /** Hands on the number of what was added; only what was not refused is a change. */
    private int kept(int number) {
        if (number != NONE) {
            changed();
        }
        return number;
    }

    private void changed() {
        table.forget();
        lesson.stop();
    }

    /** Sets the broken net up by a cause (NONE: none) without the faults in the bits of mended. */
    private void breakBy(int cause, int mended) {
        broken.copy(sound);
        if (causes.has(cause)) {
            breakWith(causes.get(cause, FIELD_A), mended);
            breakWith(causes.get(cause, FIELD_B), mended);
        }
    }

    private void breakWith(int fault, int mended) {
        if (faults.has(fault) && !isBit(mended, fault)) {
            broken.suffer(faults.get(fault, FIELD_KIND), faults.get(fault, FIELD_A),
                faults.get(fault, FIELD_B), faults.get(fault, FIELD_C));
        }
    }

    private int unmended(int fault) {
        return fault != NONE && !lesson.isMended(fault) ? 1 : 0;
    }

    /** Has the table hold the answers of every look by every cause; uses the broken net up. */
    private void prepare() {
        if (table.isReady()) {
            return;
        }
        table.start(looks.size(), causes.size());
        for (int cause = 0; cause < causes.size(); cause++) {
            breakBy(cause, 0);
            for (int look = 0; look < looks.size(); look++) {
                table.put(look, cause, teller.tell(look, broken));
            }
        }
        for (int look = 0; look < looks.size(); look++) {
            table.finish(look, looks.get(look, FIELD_PRICE));
        }
    }

    private static boolean isBit(int bits, int i) {
        return (bits >> i & 1) != 0;
    }

    /** The number of the lowest bit of bits that are not 0. */
    private static int lowestBit(int bits) {
        return Integer.bitCount((bits & -bits) - 1);
    }

    /** The nodes and the lines between them, and which neighbour is nearest for whom. */
    private static final class Plan {
        private final int[] kinds = new int[MAX_NODES];
        private final int[] neighbours = new int[MAX_NODES];
        private final int[] lineNumbers = new int[MAX_PAIRS];
        private final int[] nearest = new int[MAX_PAIRS];
        private int nodes;
        private int lines;
        private int hosts;

        Plan() {
            reset();
        }

        void reset() {
            nodes = 0;
            lines = 0;
            hosts = 0;
            Arrays.fill(neighbours, 0);
            Arrays.fill(lineNumbers, NONE);
            Arrays.fill(nearest, NONE);
        }

        int nodeCount() {
            return nodes;
        }

        int lineCount() {
            return lines;
        }

        boolean isNode(int node) {
            return node >= 0 && node < nodes;
        }

        boolean isHost(int node) {
            return node >= 0 && node < nodes && kinds[node] == KIND_HOST;
        }

        boolean isWall(int node) {
            return node >= 0 && node < nodes && kinds[node] == KIND_WALL;
        }

        /** A gate is what can be told its next: a router or a wall. */
        boolean isGate(int node) {
            return node >= 0 && node < nodes && kinds[node] >= KIND_ROUTER;
        }

        boolean isLine(int line) {
            return line >= 0 && line < lines;
        }

        int addNode(int kind) {
            if (kind < KIND_HOST || kind > KIND_WALL || nodes >= MAX_NODES) {
                return NONE;
            }
            kinds[nodes] = kind;
            if (kind == KIND_HOST) {
                hosts |= 1 << nodes;
            }
            nodes++;
            return nodes - 1;
        }

        int addLine(int a, int b) {
            boolean fits = isNode(a) && isNode(b) && a != b && lines < MAX_LINES;
            if (!fits || isBit(neighbours[a], b)) {
                return NONE;
            }
            lineNumbers[a * MAX_NODES + b] = lines;
            lineNumbers[b * MAX_NODES + a] = lines;
            neighbours[a] |= 1 << b;
            neighbours[b] |= 1 << a;
            lines++;
            for (int to = 0; to < nodes; to++) {
                findNearestFor(to);
            }
            return lines - 1;
        }

        /** Goes outward from the last node, ring by ring; a ring's hosts are reached, never passed. */
        private void findNearestFor(int to) {
            int reached = 1 << to;
            int ring = reached;
            for (int lap = 0; lap < MAX_NODES && ring != 0; lap++) {
                int found = 0;
                for (int node = 0; node < nodes; node++) {
                    int closer = neighbours[node] & ring;
                    if (closer != 0 && !isBit(reached, node)) {
                        nearest[node * MAX_NODES + to] = lowestBit(closer);
                        found |= 1 << node;
                    }
                }
                reached |= found;
                ring = found & ~hosts;
            }
        }

        int nearestOf(int node, int to) {
            int place = node * MAX_NODES + to;
            return place >= 0 && place < nearest.length ? nearest[place] : NONE;
        }

        int lineBetween(int a, int b) {
            int place = a * MAX_NODES + b;
            boolean fits = a >= 0 && b >= 0 && place < lineNumbers.length;
            return fits ? lineNumbers[place] : NONE;
        }
    }

    /** What is told to a net, and what faults change of it. */
    private static final class Setting {
        private final int[] routes = new int[MAX_PAIRS];
        private final int[] denied = new int[MAX_PAIRS];
        private final int[] services = new int[MAX_NODES];
        private final int[] names = new int[MAX_NAMES];
        private int namerHost;
        private int cutLines;
        private int astrayHosts;

        Setting() {
            reset();
        }

        void reset() {
            Arrays.fill(routes, NONE);
            Arrays.fill(denied, 0);
            Arrays.fill(services, ALL_SERVICES);
            Arrays.fill(names, NONE);
            namerHost = NONE;
            cutLines = 0;
            astrayHosts = 0;
        }

        void copy(Setting other) {
            System.arraycopy(other.routes, 0, routes, 0, MAX_PAIRS);
            System.arraycopy(other.denied, 0, denied, 0, MAX_PAIRS);
            System.arraycopy(other.services, 0, services, 0, MAX_NODES);
            System.arraycopy(other.names, 0, names, 0, MAX_NAMES);
            namerHost = other.namerHost;
            cutLines = other.cutLines;
            astrayHosts = other.astrayHosts;
        }

        void suffer(int kind, int a, int b, int c) {
            switch (kind) {
                case FAULT_CABLE:
                    cutLines |= 1 << a;
                    break;
                case FAULT_ADDRESS:
                    astrayHosts |= 1 << a;
                    break;
                case FAULT_NAME:
                    setName(a, b);
                    break;
                case FAULT_WALL:
                    setDenied(a, b, c, true);
                    break;
                case FAULT_ROUTE:
                    setRoute(a, b, c);
                    break;
                case FAULT_SERVICE:
                    setOn(a, b, false);
                    break;
                default:
                    break;
            }
        }

        void setRoute(int node, int host, int next) {
            int place = node * MAX_NODES + host;
            if (place >= 0 && place < routes.length) {
                routes[place] = next;
            }
        }

        void setDenied(int wall, int host, int service, boolean is) {
            int place = wall * MAX_NODES + host;
            if (place >= 0 && place < denied.length) {
                int without = denied[place] & ~(1 << service);
                denied[place] = is ? without | 1 << service : without;
            }
        }

        void setOn(int host, int service, boolean is) {
            if (host >= 0 && host < services.length) {
                int without = services[host] & ~(1 << service);
                services[host] = is ? without | 1 << service : without;
            }
        }

        void setName(int name, int host) {
            if (name >= 0 && name < names.length) {
                names[name] = host;
            }
        }

        void setNamer(int host) {
            namerHost = host;
        }

        /** The next that was told, or else the nearest one. */
        int nextOr(int node, int to, int nearestOne) {
            int place = node * MAX_NODES + to;
            boolean isTold = place >= 0 && place < routes.length && routes[place] != NONE;
            return isTold ? routes[place] : nearestOne;
        }

        boolean denies(int wall, int host, int service) {
            int place = wall * MAX_NODES + host;
            return place >= 0 && place < denied.length && (denied[place] >> service & 1) != 0;
        }

        boolean isOn(int host, int service) {
            return host >= 0 && host < services.length && (services[host] >> service & 1) != 0;
        }

        int hostOf(int name) {
            return name >= 0 && name < names.length ? names[name] : NONE;
        }

        int itsNamer() {
            return namerHost;
        }

        /** A line that is none carries as little as one that is cut. */
        boolean isCut(int line) {
            return line < 0 || (cutLines >> line & 1) != 0;
        }

        boolean isAstray(int host) {
            return (astrayHosts >> host & 1) != 0;
        }
    }

    /** Steps letters from node to node; the last one's path can be read. */
    private static final class Post {
        private final Plan plan;
        private final int[] path = new int[MAX_STEPS + 1];
        private int length;

        Post(Plan plan) {
            this.plan = plan;
        }

        int nextOf(Setting setting, int node, int to) {
            return setting.nextOr(node, to, plan.nearestOf(node, to));
        }

        /** Whether the letter comes. */
        boolean carry(Setting setting, int service, int from, int to) {
            int at = from;
            path[0] = from;
            length = 1;
            while (at != to && length < path.length) {
                boolean stranded = at != from && plan.isHost(at);
                if (stranded || setting.denies(at, to, service)) {
                    return false;
                }
                int hop = setting.nextOr(at, to, plan.nearestOf(at, to));
                if (setting.isCut(plan.lineBetween(at, hop))) {
                    return false;
                }
                at = hop;
                path[length] = at;
                length++;
            }
            return at == to && !setting.isAstray(to);
        }

        /** Whether a letter and its answer come; a host reaches itself without any letter. */
        boolean comeBoth(Setting setting, int service, int a, int b) {
            return a == b || carry(setting, service, a, b) && carry(setting, service, b, a);
        }

        int pathLength() {
            return length;
        }

        int pathNode(int i) {
            return i >= 0 && i < path.length ? path[i] : NONE;
        }
    }

    /** Up to twelve entries of a few numbers each: the faults, the causes, the looks. */
    private static final class Entries {
        private final int[] numbers = new int[MAX_ENTRIES * FIELDS];
        private int size;

        void reset() {
            size = 0;
        }

        int size() {
            return size;
        }

        boolean has(int entry) {
            return entry >= 0 && entry < size;
        }

        int allBits() {
            return (1 << size) - 1;
        }

        int add(int kind, int a, int b, int c, int price) {
            if (size >= MAX_ENTRIES) {
                return NONE;
            }
            int place = size * FIELDS;
            numbers[place + FIELD_KIND] = kind;
            numbers[place + FIELD_A] = a;
            numbers[place + FIELD_B] = b;
            numbers[place + FIELD_C] = c;
            numbers[place + FIELD_PRICE] = price;
            size++;
            return size - 1;
        }

        int get(int entry, int field) {
            int place = entry * FIELDS + field;
            return place >= 0 && place < numbers.length ? numbers[place] : NONE;
        }
    }

    /** Tells the answers of looks at a net. */
    private static final class Teller {
        private static final int COMES = 100;
        private static final int NO_NEXT = 99;
        private static final int NO_NAMER = 1;
        private static final int NO_NAME = 2;
        private static final int NO_WAY = 3;
        private static final int NOT_ON = 4;
        private static final int CALLED = 10;

        private final Plan plan;
        private final Post post;
        private final Entries looks;

        Teller(Plan plan, Post post, Entries looks) {
            this.plan = plan;
            this.post = post;
            this.looks = looks;
        }

        int tell(int look, Setting setting) {
            int a = looks.get(look, FIELD_A);
            int b = looks.get(look, FIELD_B);
            switch (looks.get(look, FIELD_KIND)) {
                case LOOK_PING:
                    return post.comeBoth(setting, PING_SERVICE, a, b) ? 1 : 0;
                case LOOK_TRACE:
                    return tellTrace(setting, a, b);
                case LOOK_CALL:
                    return tellCall(setting, a, b, looks.get(look, FIELD_C));
                case LOOK_TABLE:
                    int hop = post.nextOf(setting, a, b);
                    return hop == NONE ? NO_NEXT : hop;
                case LOOK_CABLE:
                    return setting.isCut(a) ? 0 : 1;
                default:
                    return NONE;
            }
        }

        private int tellTrace(Setting setting, int from, int to) {
            boolean comes = post.carry(setting, PING_SERVICE, from, to);
            int lines = post.pathLength() - 1;
            return comes ? lines + COMES : lines;
        }

        private int tellCall(Setting setting, int from, int name, int service) {
            int namer = setting.itsNamer();
            if (namer == NONE || !setting.isOn(namer, NAMER_SERVICE)
                || !post.comeBoth(setting, NAMER_SERVICE, from, namer)) {
                return NO_NAMER;
            }
            int host = setting.hostOf(name);
            if (host == NONE) {
                return NO_NAME;
            }
            if (!post.comeBoth(setting, service, from, host)) {
                return NO_WAY;
            }
            return setting.isOn(host, service) ? CALLED + host : NOT_ON;
        }
    }

    /** Which causes have like answers by which look, and what follows for sets of causes. */
    private static final class Table {
        private static final int UNKNOWN = -1;

        private final int[] answers = new int[MAX_ENTRIES * MAX_ENTRIES];
        private final int[] alike = new int[MAX_ENTRIES * MAX_ENTRIES];
        private final int[] prices = new int[MAX_ENTRIES];
        private final int[] worsts = new int[MAX_SETS];
        private int looks;
        private int causes;
        private boolean ready;

        void forget() {
            ready = false;
        }

        boolean isReady() {
            return ready;
        }

        void start(int lookCount, int causeCount) {
            looks = Math.min(lookCount, MAX_ENTRIES);
            causes = Math.min(causeCount, MAX_ENTRIES);
            for (int set = 0; set < 1 << causes; set++) {
                worsts[set] = UNKNOWN;
            }
            ready = true;
        }

        void put(int look, int cause, int answer) {
            int place = look * MAX_ENTRIES + cause;
            if (place >= 0 && place < answers.length) {
                answers[place] = answer;
            }
        }

        /** Behind the last answer of a look. */
        void finish(int look, int price) {
            if (look < 0 || look >= looks) {
                return;
            }
            prices[look] = price;
            int start = look * MAX_ENTRIES;
            for (int cause = 0; cause < causes; cause++) {
                int same = 0;
                for (int other = 0; other < causes; other++) {
                    if (answers[start + other] == answers[start + cause]) {
                        same |= 1 << other;
                    }
                }
                alike[start + cause] = same;
            }
        }

        /** The causes, as bits, that have the answer of a look that a cause has. */
        int alikeTo(int look, int cause) {
            int place = look * MAX_ENTRIES + cause;
            return place >= 0 && place < alike.length ? alike[place] : 0;
        }

        int looksThatPart(int a, int b) {
            int parting = 0;
            for (int look = 0; look < looks; look++) {
                if (!isBit(alikeTo(look, a), b)) {
                    parting |= 1 << look;
                }
            }
            return parting;
        }

        int groupsOf(int look, int set) {
            int rest = set;
            int found = 0;
            for (int round = 0; round < causes && rest != 0; round++) {
                rest &= ~alikeTo(look, lowestBit(rest));
                found++;
            }
            return found;
        }

        /** WORST of a set. */
        int leastCost(int set) {
            return worstOf(set, 0);
        }

        /** The depth stays low, as each part is less than its set. */
        private int worstOf(int set, int depth) {
            if (set <= 0 || set >= 1 << causes || depth > MAX_ENTRIES) {
                return 0;
            }
            if (worsts[set] == UNKNOWN) {
                int least = NONE;
                for (int look = 0; look < looks; look++) {
                    int cost = costWith(look, set, depth);
                    if (cost != NONE && (least == NONE || cost < least)) {
                        least = cost;
                    }
                }
                worsts[set] = Math.max(least, 0);
            }
            return worsts[set];
        }

        /** The price of a look and the greatest WORST behind it; NONE if it does not part the set. */
        private int costWith(int look, int set, int depth) {
            int rest = set;
            int greatest = 0;
            for (int round = 0; round < causes && rest != 0; round++) {
                int part = set & alikeTo(look, lowestBit(rest));
                if (part == set) {
                    return NONE;
                }
                greatest = Math.max(greatest, worstOf(part, depth + 1));
                rest &= ~part;
            }
            return look >= 0 && look < prices.length ? prices[look] + greatest : NONE;
        }

        int firstOfBestWay(int set) {
            int worst = worstOf(set, 0);
            for (int look = 0; look < looks; look++) {
                if (costWith(look, set, 0) == worst) {
                    return look;
                }
            }
            return NONE;
        }

        int mostTelling(int set) {
            int best = NONE;
            int bestSize = 0;
            for (int look = 0; look < looks; look++) {
                int size = greatestPart(look, set);
                boolean parts = size < Integer.bitCount(set);
                boolean fewer = best == NONE || size < bestSize
                    || size == bestSize && prices[look] < prices[best];
                if (parts && fewer) {
                    best = look;
                    bestSize = size;
                }
            }
            return best;
        }

        private int greatestPart(int look, int set) {
            int greatest = 0;
            for (int cause = 0; cause < causes; cause++) {
                if (isBit(set, cause)) {
                    greatest = Math.max(greatest, Integer.bitCount(set & alikeTo(look, cause)));
                }
            }
            return greatest;
        }
    }

    /** A learner's lesson: what was done in it and what is still possible. */
    private static final class Lesson {
        private boolean going;
        private int itsCause;
        private int mended;
        private int minutes;
        private int possible;
        private int used;
        private int telling;
        private int wrong;

        void start(int cause, int allCauses) {
            going = true;
            itsCause = cause;
            mended = 0;
            minutes = 0;
            possible = allCauses;
            used = 0;
            telling = 0;
            wrong = 0;
        }

        void stop() {
            going = false;
        }

        boolean isGoing() {
            return going;
        }

        int itsCause() {
            return itsCause;
        }

        int mendedFaults() {
            return mended;
        }

        boolean isMended(int fault) {
            return isBit(mended, fault);
        }

        int possible() {
            return possible;
        }

        int minutesSpent() {
            return minutes;
        }

        int looksUsed() {
            return used;
        }

        int looksThatTold() {
            return telling;
        }

        int wrongClaims() {
            return wrong;
        }

        /** A look behind a mend costs, but tells nothing of the cause any more. */
        void noteLook(int price, int alike) {
            minutes += price;
            used++;
            int fewer = possible & alike;
            if (mended == 0 && fewer != possible) {
                possible = fewer;
                telling++;
            }
        }

        void noteMend(int fault) {
            mended |= 1 << fault;
            minutes += MEND_MINUTES;
        }

        void noteWrongClaim() {
            wrong++;
            minutes += CLAIM_MINUTES;
        }
    }

    /** The numbers that a call told last. */
    private static final class Row {
        private final int[] numbers = new int[MAX_STEPS + 1];
        private int size;

        void reset() {
            size = 0;
        }

        int size() {
            return size;
        }

        void add(int number) {
            if (size < numbers.length) {
                numbers[size] = number;
                size++;
            }
        }

        int get(int i) {
            return i >= 0 && i < size ? numbers[i] : NONE;
        }
    }
}
