import java.util.Arrays;

/**
 * A tester of switch configurations: it lists frames, tells by a model where each should leave, runs
 * them on a switch with faults, and finds the fewest faults that explain what was seen.
 */
public final class VlanProbe {
    public static final int NONE = -1;
    public static final int DEAD = 0, DEAF = 1, BARE = 2, STRICT = 3, LOOSE = 4;
    public static final int LEAVES = 0, TAGGED = 1, UNTAGGED = 2, FOREIGN = 3, LOCAL = 4, NOWHERE = 5;

    private static final int FEWEST_PORTS = 2;
    private static final int FIRST_PORTS = 4;
    private static final int MOST_PORTS = 6;
    private static final int ALL_PORTS = (1 << MOST_PORTS) - 1;
    private static final int NETWORKS = 4;
    private static final int ALL_NETWORKS = (1 << NETWORKS) - 1;
    private static final int TAGS = NETWORKS + 1;
    private static final int ADDRESSES = 3;
    private static final int TO_ALL = ADDRESSES;
    private static final int DESTINATIONS = ADDRESSES + 1;
    private static final int KINDS = 5;
    private static final int MOST_FRAMES = 60;

    private final Layout layout = new Layout();
    private final FrameList list = new FrameList();
    private final Pairing pairing = new Pairing();
    private final Run model = new Run();
    private final Run reality = new Run();
    private final Search search = new Search();
    private int faults;
    private boolean stale;

    public VlanProbe() {
        layout.reset(FIRST_PORTS);
        stale = true;
    }

    // ---- the switch

    public void begin(int ports) throws IllegalArgumentException {
        if (ports < FEWEST_PORTS || ports > MOST_PORTS) {
            throw new IllegalArgumentException("a switch has 2 to 6 ports");
        }
        layout.reset(ports);
        list.cutTo(0);
        faults = 0;
        stale = true;
    }

    public int ports() {
        return layout.portCount();
    }

    public void access(int port, int network) throws IndexOutOfBoundsException, IllegalArgumentException {
        needPort(port);
        if (!isNetwork(network)) {
            throw new IllegalArgumentException("a network is 1 to 4");
        }
        layout.makeAccess(port, network);
        stale = true;
    }

    public void trunk(int port, int networks, int ownOne)
            throws IndexOutOfBoundsException, IllegalArgumentException {
        needPort(port);
        if (networks < 1 || networks > ALL_NETWORKS) {
            throw new IllegalArgumentException("a set of networks is 1 to 15");
        }
        if (ownOne != 0 && !(isNetwork(ownOne) && hasNetwork(networks, ownOne))) {
            throw new IllegalArgumentException("the native network is one of the port's, or 0");
        }
        layout.makeTrunk(port, networks, ownOne);
        stale = true;
    }

    public boolean fault(int port, int fault) throws IndexOutOfBoundsException, IllegalArgumentException {
        needPort(port);
        if (fault < 0 || fault >= KINDS) {
            throw new IllegalArgumentException("a fault is DEAD, DEAF, BARE, STRICT or LOOSE");
        }
        int bit = cellOf(fault, port);
        faults ^= bit;
        stale = true;
        return (faults & bit) != 0;
    }

    // ---- frames

    public int add(int port, int tag, int source, int destination)
            throws IndexOutOfBoundsException, IllegalArgumentException, IllegalStateException {
        needPort(port);
        if (tag < 0 || tag >= TAGS) {
            throw new IllegalArgumentException("a tag is 0 to 4");
        }
        if (source < 0 || source >= ADDRESSES) {
            throw new IllegalArgumentException("a source is 0 to 2");
        }
        if (destination < 0 || destination >= DESTINATIONS) {
            throw new IllegalArgumentException("a destination is 0 to 3");
        }
        if (list.size() >= MOST_FRAMES) {
            throw new IllegalStateException("the list has 60 frames");
        }
        list.append(frameOf(port, tag, source, destination));
        stale = true;
        return list.size() - 1;
    }

    public int cover() throws IllegalStateException {
        int before = list.size();
        pairing.meetAll(list);
        int all = pairing.countAll(layout.portCount());
        for (int size = before; size < MOST_FRAMES && pairing.countMet() < all; size++) {
            int frame = pairing.bestFrame(layout.portCount());
            list.append(frame);
            pairing.meet(frame);
        }
        if (pairing.countMet() < all) {
            list.cutTo(before);
            throw new IllegalStateException("more than 60 frames would be needed");
        }
        stale = true;
        return list.size() - before;
    }

    public void clear() {
        list.cutTo(0);
        stale = true;
    }

    public int frames() {
        return list.size();
    }

    public int frameAt(int frame) throws IndexOutOfBoundsException {
        needFrame(frame);
        return list.frame(frame);
    }

    public int pairs() {
        return pairing.countAll(layout.portCount());
    }

    public int pairsMet() {
        pairing.meetAll(list);
        return pairing.countMet();
    }

    // ---- what should be

    public int expected(int frame) throws IndexOutOfBoundsException {
        needFrame(frame);
        settle();
        return model.exitsOf(frame);
    }

    public int expectedTagged(int frame) throws IndexOutOfBoundsException {
        needFrame(frame);
        settle();
        return model.taggedOf(frame);
    }

    public int reason(int frame) throws IndexOutOfBoundsException {
        needFrame(frame);
        settle();
        return model.reasonOf(frame);
    }

    public int learned(int network, int address) throws IllegalArgumentException {
        if (!isNetwork(network)) {
            throw new IllegalArgumentException("a network is 1 to 4");
        }
        if (address < 0 || address >= ADDRESSES) {
            throw new IllegalArgumentException("an address is 0 to 2");
        }
        settle();
        return model.placeOf(network, address);
    }

    // ---- what is

    public int seen(int frame) throws IndexOutOfBoundsException {
        needFrame(frame);
        settle();
        return reality.exitsOf(frame);
    }

    public int seenTagged(int frame) throws IndexOutOfBoundsException {
        needFrame(frame);
        settle();
        return reality.taggedOf(frame);
    }

    public long differing() {
        settle();
        long different = 0;
        for (int k = 0; k < list.size(); k++) {
            if (portsThatDiffer(k) != 0) {
                different |= 1L << k;
            }
        }
        return different;
    }

    public int differencesAt(int port) throws IndexOutOfBoundsException {
        needPort(port);
        settle();
        int count = 0;
        for (int k = 0; k < list.size(); k++) {
            count += portsThatDiffer(k) >> port & 1;
        }
        return count;
    }

    public int blame() {
        settle();
        search.findFewest(layout, list, reality);
        return search.fewest();
    }

    public int blamed(int place) throws IndexOutOfBoundsException {
        settle();
        search.findFewest(layout, list, reality);
        if (place < 0 || place >= search.fewest()) {
            throw new IndexOutOfBoundsException("the explanation has not so many faults");
        }
        return search.culprit(place);
    }

    public int explanations() {
        settle();
        search.findFewest(layout, list, reality);
        return search.count();
    }

    // ---- what the calls share

    private void needPort(int port) {
        if (port < 0 || port >= layout.portCount()) {
            throw new IndexOutOfBoundsException("there is no such port");
        }
    }

    private void needFrame(int frame) {
        if (frame < 0 || frame >= list.size()) {
            throw new IndexOutOfBoundsException("there is no such frame");
        }
    }

    /** Both runs are kept until something changes, for most calls only read them. */
    private void settle() {
        if (stale) {
            model.runAll(layout, list, 0);
            reality.runAll(layout, list, faults);
            search.forget();
            stale = false;
        }
    }

    private int portsThatDiffer(int frame) {
        return (model.exitsOf(frame) ^ reality.exitsOf(frame))
                | (model.taggedOf(frame) ^ reality.taggedOf(frame));
    }

    private static boolean isNetwork(int network) {
        return network >= 1 && network <= NETWORKS;
    }

    private static boolean hasNetwork(int networks, int network) {
        return (networks >> (network - 1) & 1) != 0;
    }

    // A table of sets of ports is one number with six bits a row, so that a row comes out as a set:
    // the faults of a switch have a row for each kind, its layout has one for each network.

    private static int cellOf(int row, int port) {
        return 1 << (MOST_PORTS * row + port);
    }

    private static int portsIn(int table, int row) {
        return table >> (MOST_PORTS * row) & ALL_PORTS;
    }

    // A frame is kept as the one number that frameAt answers.

    private static int frameOf(int port, int tag, int source, int destination) {
        return 1000 * port + 100 * tag + 10 * source + destination;
    }

    private static int portOf(int frame) {
        return frame / 1000;
    }

    private static int tagOf(int frame) {
        return frame / 100 % 10;
    }

    private static int sourceOf(int frame) {
        return frame / 10 % 10;
    }

    private static int destinationOf(int frame) {
        return frame % 10;
    }

    /** Numbers in a row; it is the only place with an array, so every index is tested here. */
    private static final class Row {
        private final int[] cells;

        Row(int length) {
            cells = new int[length < 0 ? 0 : length];
        }

        int read(int place) {
            return place >= 0 && place < cells.length ? cells[place] : 0;
        }

        void write(int place, int value) {
            if (place >= 0 && place < cells.length) {
                cells[place] = value;
            }
        }

        void fill(int value) {
            Arrays.fill(cells, value);
        }
    }

    /** How the ports are set. An ACCESS port has its network as its native one too. */
    private static final class Layout {
        private int portCount;
        private int accessPorts;
        private int members;
        private int natives;

        void reset(int count) {
            portCount = count;
            accessPorts = 0;
            members = 0;
            natives = 0;
            for (int port = 0; port < count; port++) {
                makeAccess(port, 1);
            }
        }

        int portCount() {
            return portCount;
        }

        int accessPorts() {
            return accessPorts;
        }

        /** The table of the ports that belong to each network. */
        int members() {
            return members;
        }

        /** The table of the ports that have each network as their native one. */
        int natives() {
            return natives;
        }

        void makeAccess(int port, int network) {
            makeTrunk(port, 1 << (network - 1), network);
            accessPorts |= 1 << port;
        }

        void makeTrunk(int port, int set, int ownOne) {
            accessPorts &= ~(1 << port);
            for (int network = 1; network <= NETWORKS; network++) {
                int cell = cellOf(network, port);
                members = hasNetwork(set, network) ? members | cell : members & ~cell;
                natives = network == ownOne ? natives | cell : natives & ~cell;
            }
        }

        int nativeOf(int port) {
            for (int network = 1; network <= NETWORKS; network++) {
                if ((natives >> (MOST_PORTS * network + port) & 1) != 0) {
                    return network;
                }
            }
            return 0;
        }
    }

    /** The frames, in the order in which they are run. */
    private static final class FrameList {
        private final Row row = new Row(MOST_FRAMES);
        private int size;

        int size() {
            return size;
        }

        int frame(int number) {
            return row.read(number);
        }

        void append(int frame) {
            if (size < MOST_FRAMES) {
                row.write(size, frame);
                size++;
            }
        }

        void cutTo(int length) {
            if (length >= 0 && length < size) {
                size = length;
            }
        }
    }

    /**
     * Which pairs are met. Every value of every setting has a number, the settings one behind the
     * other; the row has, for each value, the set of higher values that it was met with.
     */
    private static final class Pairing {
        private static final int FIRST_TAG = MOST_PORTS;
        private static final int FIRST_SOURCE = FIRST_TAG + TAGS;
        private static final int FIRST_DESTINATION = FIRST_SOURCE + ADDRESSES;
        private static final int VALUES = FIRST_DESTINATION + DESTINATIONS;

        private final Row met = new Row(VALUES);

        int countAll(int ports) {
            return ports * (TAGS + ADDRESSES + DESTINATIONS)
                    + TAGS * (ADDRESSES + DESTINATIONS)
                    + ADDRESSES * DESTINATIONS;
        }

        int countMet() {
            int count = 0;
            for (int value = 0; value < VALUES; value++) {
                count += Integer.bitCount(met.read(value));
            }
            return count;
        }

        void meetAll(FrameList list) {
            met.fill(0);
            for (int k = 0; k < list.size(); k++) {
                meet(list.frame(k));
            }
        }

        void meet(int frame) {
            int values = valuesOf(frame);
            for (int value = 0; value < VALUES; value++) {
                met.write(value, met.read(value) | partnersOf(value, values));
            }
        }

        int bestFrame(int ports) {
            int best = 0;
            int most = NONE;
            for (int port = 0; port < ports; port++) {
                for (int tag = 0; tag < TAGS; tag++) {
                    int frame = bestFrameAt(port, tag);
                    int gain = gainOf(frame);
                    if (gain > most) {
                        most = gain;
                        best = frame;
                    }
                }
            }
            return best;
        }

        private int bestFrameAt(int port, int tag) {
            int best = 0;
            int most = NONE;
            for (int source = 0; source < ADDRESSES; source++) {
                for (int destination = 0; destination < DESTINATIONS; destination++) {
                    int frame = frameOf(port, tag, source, destination);
                    int gain = gainOf(frame);
                    if (gain > most) {
                        most = gain;
                        best = frame;
                    }
                }
            }
            return best;
        }

        private int gainOf(int frame) {
            int values = valuesOf(frame);
            int gain = 0;
            for (int value = 0; value < VALUES; value++) {
                gain += Integer.bitCount(partnersOf(value, values) & ~met.read(value));
            }
            return gain;
        }

        private static int valuesOf(int frame) {
            return 1 << portOf(frame)
                    | 1 << (FIRST_TAG + tagOf(frame))
                    | 1 << (FIRST_SOURCE + sourceOf(frame))
                    | 1 << (FIRST_DESTINATION + destinationOf(frame));
        }

        private static int partnersOf(int value, int values) {
            return (values >> value & 1) != 0 ? values & (-2 << value) : 0;
        }
    }

    /** A switch that is sent one frame after the other; without faults it is the model. */
    private static final class Device {
        private final Row places = new Row(NETWORKS * ADDRESSES);
        private int faults;
        private int exits;
        private int taggedExits;
        private int why;

        void restart(int withFaults) {
            faults = withFaults;
            places.fill(NONE);
        }

        int exits() {
            return exits;
        }

        int taggedExits() {
            return taggedExits;
        }

        int why() {
            return why;
        }

        int placeOf(int network, int address) {
            return places.read(slotOf(network, address));
        }

        void send(Layout layout, int frame) {
            exits = 0;
            taggedExits = 0;
            why = LEAVES;
            if (isLostAtEntry(frame)) {
                return;
            }
            why = refusal(layout, frame);
            if (why != LEAVES) {
                return;
            }
            int port = portOf(frame);
            int network = tagOf(frame) == 0 ? layout.nativeOf(port) : tagOf(frame);
            if (!has(DEAF, port)) {
                places.write(slotOf(network, sourceOf(frame)), port);
            }
            forward(layout, port, network, destinationOf(frame));
        }

        private boolean isLostAtEntry(int frame) {
            int port = portOf(frame);
            return has(DEAD, port) || has(STRICT, port) && tagOf(frame) == 0;
        }

        private int refusal(Layout layout, int frame) {
            int port = portOf(frame);
            int tag = tagOf(frame);
            if (tag == 0) {
                return layout.nativeOf(port) == 0 ? UNTAGGED : LEAVES;
            }
            if (has(LOOSE, port)) {
                return LEAVES;
            }
            if ((layout.accessPorts() >> port & 1) != 0) {
                return TAGGED;
            }
            return (layout.members() & cellOf(tag, port)) == 0 ? FOREIGN : LEAVES;
        }

        private void forward(Layout layout, int port, int network, int destination) {
            int place = destination == TO_ALL ? NONE : places.read(slotOf(network, destination));
            if (place == port) {
                why = LOCAL;
                return;
            }
            int wanted = place == NONE
                    ? portsIn(layout.members(), network) & ~(1 << port)
                    : 1 << place;
            if (wanted == 0) {
                why = NOWHERE;
                return;
            }
            exits = wanted & ~portsIn(faults, DEAD);
            // An ACCESS port is untagged in every network: by LOOSE a foreign one may be learned there.
            int untagged = layout.accessPorts()
                    | portsIn(layout.natives(), network)
                    | portsIn(faults, BARE);
            taggedExits = exits & ~untagged;
        }

        private boolean has(int kind, int port) {
            return (faults >> (MOST_PORTS * kind + port) & 1) != 0;
        }

        private static int slotOf(int network, int address) {
            return (network - 1) * ADDRESSES + address;
        }
    }

    /** What became of each frame of the list. */
    private static final class Run {
        private final Device device = new Device();
        private final Row exits = new Row(MOST_FRAMES);
        private final Row taggedExits = new Row(MOST_FRAMES);
        private final Row reasons = new Row(MOST_FRAMES);

        void runAll(Layout layout, FrameList list, int faults) {
            device.restart(faults);
            for (int k = 0; k < list.size(); k++) {
                device.send(layout, list.frame(k));
                exits.write(k, device.exits());
                taggedExits.write(k, device.taggedExits());
                reasons.write(k, device.why());
            }
        }

        int exitsOf(int frame) {
            return exits.read(frame);
        }

        int taggedOf(int frame) {
            return taggedExits.read(frame);
        }

        int reasonOf(int frame) {
            return reasons.read(frame);
        }

        int placeOf(int network, int address) {
            return device.placeOf(network, address);
        }
    }

    /**
     * The search for the fewest faults. Faults are taken by a rank that counts them without gaps
     * and rises as their numbers do; the first fit of a size is so the one that is told.
     */
    private static final class Search {
        private final Device trial = new Device();
        private boolean known;
        private int fewest;
        private int count;
        private int first;
        private int second;

        void forget() {
            known = false;
        }

        int fewest() {
            return fewest;
        }

        int count() {
            return count;
        }

        int culprit(int place) {
            return numberOf(place == 0 ? first : second);
        }

        void findFewest(Layout layout, FrameList list, Run reality) {
            if (known) {
                return;
            }
            known = true;
            count = 0;
            tryNone(layout, list, reality);
            if (count == 0) {
                tryOnes(layout, list, reality);
            }
            if (count == 0) {
                tryTwos(layout, list, reality);
            }
            if (count == 0) {
                fewest = NONE;
            }
        }

        private void tryNone(Layout layout, FrameList list, Run reality) {
            if (fits(layout, list, reality, 0)) {
                note(0, 0, 0);
            }
        }

        private void tryOnes(Layout layout, FrameList list, Run reality) {
            int ranks = KINDS * layout.portCount();
            for (int one = 0; one < ranks; one++) {
                if (fits(layout, list, reality, bitOf(one))) {
                    note(1, one, one);
                }
            }
        }

        private void tryTwos(Layout layout, FrameList list, Run reality) {
            int ranks = KINDS * layout.portCount();
            for (int one = 0; one < ranks; one++) {
                for (int two = one + 1; two < ranks; two++) {
                    if (fits(layout, list, reality, bitOf(one) | bitOf(two))) {
                        note(2, one, two);
                    }
                }
            }
        }

        private void note(int size, int one, int two) {
            if (count == 0) {
                fewest = size;
                first = one;
                second = two;
            }
            count++;
        }

        private boolean fits(Layout layout, FrameList list, Run reality, int faults) {
            trial.restart(faults);
            for (int k = 0; k < list.size(); k++) {
                trial.send(layout, list.frame(k));
                if (trial.exits() != reality.exitsOf(k) || trial.taggedExits() != reality.taggedOf(k)) {
                    return false;
                }
            }
            return true;
        }

        private static int bitOf(int rank) {
            return cellOf(rank % KINDS, rank / KINDS);
        }

        private static int numberOf(int rank) {
            return 10 * (rank / KINDS) + rank % KINDS;
        }
    }
}
