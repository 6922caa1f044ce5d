/** The sentences of the promises 22 to 24: the fewest faults that explain what is seen. */
final class BlameBoundary {
    private static final int DEAD = VlanProbe.DEAD;
    private static final int DEAF = VlanProbe.DEAF;
    private static final int BARE = VlanProbe.BARE;
    private static final int STRICT = VlanProbe.STRICT;
    private static final int LOOSE = VlanProbe.LOOSE;

    private final Sheet sheet;

    BlameBoundary(Sheet sheet) {
        this.sheet = sheet;
    }

    void list() {
        sheet.place("Promise 22: blame");
        sheet.test("Returns the fewest faults that explain what is seen:", this::fewest);
        sheet.test("with just these faults, all frames leave where, and as, they are seen to leave.",
                this::allFramesLeaveSo);
        sheet.test("At most two faults are tried.", this::atMostTwo);
        sheet.test("Returns how many, 0 to 2;", this::noneToTwo);
        sheet.test("NONE if no two faults explain it.", this::noTwo);
        sheet.place("Promise 23: blamed");
        sheet.test("Returns a fault of the explanation with the fewest faults;", this::ofTheFewest);
        sheet.test("of several the one whose first fault has the lowest number,", this::lowestFirst);
        sheet.test("then the second one.", this::lowestSecond);
        sheet.test("The number of a fault is 10 times its port, plus the fault;", this::numberOfEachFault);
        sheet.test("the faults of an explanation are told by rising numbers.", this::risingNumbers);
        sheet.test("`place`: 0 for the first fault", this::places);
        sheet.test("Returns the number of the fault.", this::lowestAndHighest);
        sheet.test("Throws `IndexOutOfBoundsException` if the explanation has not so many faults,",
                this::notSoMany);
        sheet.test("or there is none", this::noExplanation);
        sheet.place("Promise 24: explanations");
        sheet.test("Returns how many explanations there are with the fewest faults;", this::howMany);
        sheet.test("0 if there is none.", this::noneIsThere);
    }

    // ---- promise 22

    private void fewest() {
        VlanProbe x = new VlanProbe();
        x.add(0, 0, 0, 3);
        for (int kind = DEAD; kind <= LOOSE; kind++) {
            x.fault(0, kind);
        }
        isBlamed("one of five explains it", x, 2, 0);
        VlanProbe two = Probes.of(2);
        two.add(0, 0, 0, 3);
        two.add(1, 0, 1, 3);
        two.fault(0, DEAD);
        two.fault(1, DEAD);
        isBlamed("one of two explains it", two, 2, 0);
        VlanProbe three = fromEachPort(4);
        three.fault(2, DEAD);
        three.fault(1, BARE);
        isBlamed("one shows, one does not", three, 1, 20);
        three.fault(1, DEAD);
        isBlamed("two of three explain it", three, 1, 10, 20);
        three.fault(2, DEAD);
        three.fault(1, DEAD);
        isBlamed("none shows", three, 1);
        VlanProbe other = Probes.of(2);
        other.add(0, 0, 0, 3);
        other.fault(1, DEAD);
        isBlamed("the fault may be another one than that of the switch", other, 3, 0);
    }

    private void allFramesLeaveSo() {
        VlanProbe where = Probes.of(3);
        where.fault(2, DEAD);
        Probes.fill(where, 59, 0, 0, 0, 3);
        isBlamed("where: they do not leave at 2", where, 1, 20);
        VlanProbe as = Probes.trunks(3);
        as.fault(2, BARE);
        as.add(0, 1, 0, 3);
        isBlamed("as: it leaves untagged at 2", as, 1, 22);
        as.fault(2, DEAD);
        isBlamed("where, and not as", as, 1, 20);
        tellsLast();
        explainsEachTwo();
    }

    private void tellsLast() {
        VlanProbe x = Probes.of(3);
        x.fault(1, STRICT);
        x.fault(2, LOOSE);
        Probes.fill(x, 59, 0, 0, 0, 3);
        isBlamed("no frame shows it", x, 1);
        x.add(1, 0, 1, 3);
        isBlamed("frame 59 shows it", x, 1, 13);
        VlanProbe y = Probes.of(3);
        y.fault(1, STRICT);
        y.add(1, 0, 1, 3);
        Probes.fill(y, 60, 2, 1, 0, 3);
        isBlamed("frame 0 shows it", y, 2, 10);
    }

    /** Whatever two faults there are, those that are told do as they do. */
    private void explainsEachTwo() {
        for (int one = 0; one < 30; one++) {
            for (int two = one + 1; two < 30; two++) {
                VlanProbe x = covered(one, two);
                int size = x.blame();
                sheet.is("no more than two", size >= 0 && size <= 2, true);
                VlanProbe y = covered();
                for (int place = 0; place < size; place++) {
                    int number = x.blamed(place);
                    y.fault(number / 10, number % 10);
                }
                sheet.same("seen with the faults " + one + " and " + two, seenBy(x), seenBy(y));
            }
        }
    }

    private static VlanProbe covered(int... faults) {
        VlanProbe x = Probes.mixed();
        x.cover();
        for (int number : faults) {
            x.fault(number / 5, number % 5);
        }
        return x;
    }

    private static String seenBy(VlanProbe x) {
        StringBuilder text = new StringBuilder();
        int frames = x.frames();
        for (int k = 0; k < frames; k++) {
            text.append(' ').append(x.seen(k)).append('/').append(x.seenTagged(k));
        }
        return text.toString();
    }

    private void atMostTwo() {
        VlanProbe x = fromEachPort(4);
        x.fault(0, STRICT);
        x.fault(1, STRICT);
        isBlamed("two", x, 1, 3, 13);
        x.fault(2, STRICT);
        isUnexplained("three, though these would explain it", x);
        x.fault(3, STRICT);
        isUnexplained("four", x);
        x.fault(0, STRICT);
        x.fault(1, STRICT);
        isBlamed("two others", x, 1, 23, 33);
        VlanProbe one = threeOfOnePort();
        isUnexplained("three of one port", one);
        one.fault(0, LOOSE);
        isBlamed("two of one port", one, 1, 1, 3);
    }

    /** Port 0 is deaf, strict and loose, and each of these shows. */
    private static VlanProbe threeOfOnePort() {
        VlanProbe x = new VlanProbe();
        x.trunk(0, 3, 1);
        x.access(3, 3);
        x.add(0, 0, 0, 3);
        x.add(0, 1, 0, 3);
        x.add(1, 0, 1, 0);
        x.add(0, 3, 2, 3);
        x.fault(0, DEAF);
        x.fault(0, STRICT);
        x.fault(0, LOOSE);
        return x;
    }

    private void noneToTwo() {
        VlanProbe x = new VlanProbe();
        sheet.is("no frames, no faults", x.blame(), 0);
        x.fault(0, DEAD);
        sheet.is("no frames", x.blame(), 0);
        x.fault(0, DEAD);
        x.add(0, 0, 0, 3);
        x.add(1, 0, 1, 3);
        x.add(2, 0, 1, 3);
        sheet.is("no faults", x.blame(), 0);
        x.fault(3, LOOSE);
        sheet.is("one that does not show", x.blame(), 0);
        x.fault(0, DEAD);
        sheet.is("one", x.blame(), 1);
        x.fault(1, DEAD);
        sheet.is("two", x.blame(), 2);
        sheet.is("two, asked again", x.blame(), 2);
        x.fault(0, DEAD);
        sheet.is("one again", x.blame(), 1);
        x.clear();
        sheet.is("no frames again", x.blame(), 0);
        x.cover();
        x.begin(4);
        sheet.is("begun", x.blame(), 0);
    }

    private void noTwo() {
        VlanProbe x = fromEachPort(4);
        x.fault(0, DEAD);
        x.fault(1, DEAD);
        x.fault(2, STRICT);
        sheet.is("three", x.blame(), VlanProbe.NONE);
        sheet.is("three, asked again", x.blame(), -1);
        x.fault(2, STRICT);
        sheet.is("two", x.blame(), 2);
        x.fault(2, STRICT);
        sheet.is("three again", x.blame(), VlanProbe.NONE);
        x.clear();
        sheet.is("no frames", x.blame(), 0);
    }

    // ---- promise 23

    private void ofTheFewest() {
        VlanProbe x = fromEachPort(4);
        x.fault(3, STRICT);
        sheet.is("the one fault", x.blamed(0), 33);
        x.fault(1, DEAF);
        sheet.is("one that does not show beside it", x.blamed(0), 33);
        x.fault(1, DEAD);
        sheet.is("the first of two", x.blamed(0), 10);
        sheet.is("the second of two", x.blamed(1), 33);
        VlanProbe y = new VlanProbe();
        y.add(0, 0, 0, 3);
        y.fault(1, DEAD);
        y.fault(2, DEAD);
        y.fault(3, DEAD);
        sheet.is("one that none of the three is", y.blamed(0), 0);
        sheet.is("explanations", y.explanations(), 2);
    }

    /** Five explain it: 0 and 30, 10 and 20, 10 and 23, 20 and 30, 23 and 30. */
    private static VlanProbe fiveExplain() {
        VlanProbe x = new VlanProbe();
        x.access(1, 2);
        x.trunk(3, 3, 0);
        x.add(3, 2, 1, 0);
        x.add(2, 0, 0, 3);
        x.fault(2, STRICT);
        x.fault(3, DEAD);
        return x;
    }

    private void lowestFirst() {
        isBlamed("not 10 and 20, whose second one is lower", fiveExplain(), 5, 0, 30);
        VlanProbe x = new VlanProbe();
        x.add(2, 0, 0, 3);
        x.fault(2, STRICT);
        isBlamed("dead is lower than strict", x, 2, 20);
        VlanProbe y = Probes.of(2);
        y.add(1, 0, 0, 3);
        y.fault(1, DEAD);
        isBlamed("port 0 is lower than port 1", y, 3, 0);
    }

    private void lowestSecond() {
        VlanProbe x = new VlanProbe();
        x.add(0, 0, 0, 3);
        x.add(1, 0, 0, 3);
        x.fault(0, STRICT);
        x.fault(1, STRICT);
        isBlamed("0 or 3, and 10 or 13", x, 4, 0, 10);
        x.add(1, 0, 0, 3);
        x.add(2, 0, 0, 3);
        isBlamed("3 and 13 alone", x, 1, 3, 13);
        VlanProbe y = Probes.of(3);
        y.trunk(2, 3, 0);
        y.add(0, 0, 0, 3);
        y.add(1, 0, 0, 1);
        y.fault(2, BARE);
        y.fault(1, STRICT);
        isBlamed("10 or 13, and 22", y, 1, 13, 22);
    }

    private void numberOfEachFault() {
        for (int port = 0; port <= 5; port++) {
            for (int kind = DEAD; kind <= LOOSE; kind++) {
                VlanProbe x = telling(port);
                x.fault(port, kind);
                isBlamed("fault " + kind + " of port " + port, x, 1, 10 * port + kind);
            }
        }
    }

    /** Six ports; each fault of this one shows in its own way. */
    private static VlanProbe telling(int port) {
        int one = (port + 1) % 6;
        int third = (port + 2) % 6;
        int second = (port + 3) % 6;
        VlanProbe x = Probes.of(6);
        x.trunk(port, 3, 1);
        x.access(third, 3);
        x.trunk(second, 2, 0);
        x.add(port, 0, 0, 3);
        x.add(one, 0, 1, 0);
        x.add(second, 2, 2, 3);
        x.add(port, 3, 2, 3);
        return x;
    }

    private void risingNumbers() {
        VlanProbe x = fromEachPort(6);
        for (int one = 0; one <= 5; one++) {
            for (int two = 0; two <= 5; two++) {
                if (one != two) {
                    x.fault(one, STRICT);
                    x.fault(two, STRICT);
                    int low = Math.min(one, two);
                    int high = Math.max(one, two);
                    isBlamed("strict at " + one + " and " + two, x, 1, 10 * low + 3, 10 * high + 3);
                    x.fault(one, STRICT);
                    x.fault(two, STRICT);
                }
            }
        }
        VlanProbe y = threeOfOnePort();
        y.fault(0, DEAF);
        isBlamed("two of one port", y, 1, 3, 4);
    }

    private void places() {
        VlanProbe x = fromEachPort(4);
        x.fault(2, DEAD);
        sheet.is("the first of one", x.blamed(0), 20);
        x.fault(1, DEAD);
        sheet.is("the first of two", x.blamed(0), 10);
        sheet.is("the second of two", x.blamed(1), 20);
        sheet.is("the first of two again", x.blamed(0), 10);
        VlanProbe fresh = fromEachPort(4);
        fresh.fault(2, DEAD);
        fresh.fault(1, DEAD);
        sheet.is("the second of two, with nothing asked ahead", fresh.blamed(1), 20);
    }

    private void lowestAndHighest() {
        VlanProbe x = telling(0);
        x.fault(0, DEAD);
        sheet.is("the lowest number", x.blamed(0), 0);
        VlanProbe y = telling(5);
        y.fault(5, LOOSE);
        sheet.is("the highest number", y.blamed(0), 54);
        VlanProbe both = Probes.of(6);
        both.access(4, 2);
        both.add(1, 0, 0, 3);
        both.add(0, 0, 1, 3);
        both.add(5, 2, 0, 3);
        both.fault(5, LOOSE);
        both.fault(0, DEAD);
        isBlamed("the lowest and the highest", both, 1, 0, 54);
        both.add(5, 0, 0, 3);
        both.fault(0, DEAD);
        both.fault(5, STRICT);
        isBlamed("the two highest", both, 1, 53, 54);
    }

    private void notSoMany() {
        VlanProbe none = fromEachPort(4);
        hasNoPlaces("of no fault", none, 0);
        VlanProbe one = fromEachPort(4);
        one.fault(0, DEAD);
        hasNoPlaces("of one fault", one, 1);
        VlanProbe two = fromEachPort(4);
        two.fault(0, DEAD);
        two.fault(3, DEAD);
        hasNoPlaces("of two faults", two, 2);
        two.fault(3, DEAD);
        hasNoPlaces("of one fault again", two, 1);
        two.fault(0, DEAD);
        hasNoPlaces("of no fault again", two, 0);
        hasNoPlaces("without frames", new VlanProbe(), 0);
        VlanProbe asked = Probes.busy();
        sheet.changesNothing(asked, "blamed(2)", Sheet.INDEX, x -> x.blamed(2));
    }

    private void noExplanation() {
        VlanProbe x = fromEachPort(4);
        x.fault(0, DEAD);
        x.fault(1, DEAD);
        sheet.is("two", x.blamed(1), 10);
        x.fault(2, DEAD);
        hasNoPlaces("of no explanation", x, 0);
        VlanProbe fresh = fromEachPort(6);
        for (int port = 0; port <= 5; port++) {
            fresh.fault(port, STRICT);
        }
        sheet.refused("blamed(0) with nothing asked ahead", Sheet.INDEX, () -> fresh.blamed(0));
        sheet.refused("blamed(-1)", Sheet.INDEX, () -> fresh.blamed(-1));
    }

    private void hasNoPlaces(String what, VlanProbe x, int faults) {
        for (int place : Sheet.outside(0, faults - 1)) {
            sheet.refused("blamed(" + place + ") " + what, Sheet.INDEX, () -> x.blamed(place));
        }
    }

    // ---- promise 24

    private void howMany() {
        sheet.is("five, each of two", fiveExplain().explanations(), 5);
        VlanProbe x = new VlanProbe();
        sheet.is("no frames: the one without faults", x.explanations(), 1);
        x.fault(0, DEAD);
        sheet.is("no frames, a fault", x.explanations(), 1);
        x.add(0, 0, 0, 3);
        sheet.is("dead or strict, and none of two faults", x.explanations(), 2);
        sheet.is("asked again", x.explanations(), 2);
        x.add(1, 0, 0, 3);
        sheet.is("dead", x.explanations(), 1);
        x.fault(0, DEAD);
        sheet.is("none shows: the one without faults, and none of one fault", x.explanations(), 1);
        VlanProbe y = Probes.of(2);
        y.add(0, 0, 0, 3);
        y.fault(1, DEAD);
        sheet.is("dead or strict at 0, or dead at 1", y.explanations(), 3);
        VlanProbe six = Probes.of(6);
        six.fault(0, STRICT);
        six.fault(5, STRICT);
        six.add(0, 0, 0, 3);
        six.add(5, 0, 0, 3);
        sheet.is("dead or strict at 0, dead or strict at 5", six.explanations(), 4);
        VlanProbe deafFirst = Probes.of(6);
        deafFirst.add(0, 0, 0, 3);
        deafFirst.add(1, 0, 1, 0);
        deafFirst.fault(0, DEAF);
        deafFirst.fault(5, DEAD);
        sheet.is("deaf at 0 and dead at 5", deafFirst.explanations(), 1);
    }

    private void noneIsThere() {
        VlanProbe x = fromEachPort(4);
        x.fault(0, STRICT);
        x.fault(1, STRICT);
        x.fault(2, STRICT);
        sheet.is("three", x.explanations(), 0);
        sheet.is("three, asked again", x.explanations(), 0);
        x.fault(2, STRICT);
        sheet.is("two", x.explanations(), 1);
        x.fault(3, STRICT);
        sheet.is("three again", x.explanations(), 0);
        x.clear();
        sheet.is("no frames", x.explanations(), 1);
    }

    // ---- what they share

    /** ACCESS ports of the network 1, with a frame to all from each of them. */
    private static VlanProbe fromEachPort(int ports) {
        VlanProbe x = Probes.of(ports);
        for (int port = 0; port < ports; port++) {
            x.add(port, 0, port % 3, 3);
        }
        return x;
    }

    private void isBlamed(String what, VlanProbe x, int explanations, int... faults) {
        StringBuilder due = new StringBuilder(", blame ").append(faults.length)
                .append(" of ").append(explanations).append(':');
        for (int number : faults) {
            due.append(' ').append(number);
        }
        sheet.same(what, Probes.blameOf(x), due.toString());
    }

    private void isUnexplained(String what, VlanProbe x) {
        sheet.same(what, Probes.blameOf(x), ", blame -1 of 0:");
    }
}
