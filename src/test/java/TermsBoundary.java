/** The sentences of "What it is", "The public face" and "Terms": the switch, its faults, its frames. */
final class TermsBoundary {
    private static final int DEAD = VlanProbe.DEAD;
    private static final int DEAF = VlanProbe.DEAF;
    private static final int BARE = VlanProbe.BARE;
    private static final int STRICT = VlanProbe.STRICT;
    private static final int LOOSE = VlanProbe.LOOSE;

    private final Sheet sheet;

    TermsBoundary(Sheet sheet) {
        this.sheet = sheet;
    }

    void list() {
        sheet.place("What it is");
        sheet.test("An object is used for at most 512 calls after it has been made;", this::call512);
        sheet.untested("what later calls answer is free.");
        sheet.untested("A tester of switch configurations: frames are generated so that each pair of their settings "
                + "is met; what should become of each frame is told by a model of the switch; the frames are run on "
                + "a switch with faults; and the fewest faults are found that explain what was seen.");
        sheet.place("Terms");
        listTheSwitch();
        listTheSteps();
        listTheFaults();
        listTheFrames();
        listTheConstants();
    }

    private void listTheSwitch() {
        sheet.untested("Frames. ");
        sheet.untested("Faults. ");
        sheet.untested("Pairs. ");
        sheet.test("The switch has 2 to 6 ports, numbered from 0, and the networks 1 to 4.",
                this::portsAndNetworks);
        sheet.test("A port is in one of two modes.", this::oneMode);
        sheet.test("ACCESS: it belongs to one network.", this::accessHasOneNetwork);
        sheet.test("TRUNK: it belongs to a set of networks, told as bits, bit v - 1 for the network v,",
                this::trunkHasASet);
        sheet.test("and may have one of them as its native one.", this::trunkMayHaveANative);
        sheet.test("A frame enters at a port, with a tag from 0 to 4", this::portsAndTagsOfFrames);
        sheet.test("(0: untagged, otherwise the number of a network)", this::tagsAreNetworks);
        sheet.test("and has a source, an address from 0 to 2,", this::sources);
        sheet.test("and a destination, an address from 0 to 2, or 3 for all.", this::destinations);
    }

    private void listTheSteps() {
        sheet.untested("What the switch does with a frame, step by step:");
        sheet.test("The frame gets a network, or is dropped.", this::oneNetworkOrDropped);
        sheet.test("At an ACCESS port: if it is untagged, the network of the port;", this::untaggedAtAccess);
        sheet.test("otherwise it is dropped, for the reason TAGGED.", this::taggedAtAccess);
        sheet.test("At a TRUNK port: if it is untagged, the native network,", this::untaggedAtTrunk);
        sheet.test("or, if the port has none, it is dropped, for the reason UNTAGGED;", this::noNative);
        sheet.test("if it is tagged, the network of its tag,", this::taggedAtTrunk);
        sheet.test("or, if the port does not belong to that, it is dropped, for the reason FOREIGN.",
                this::foreignAtTrunk);
        sheet.test("The switch learns: in this network the source is at this port,", this::learns);
        sheet.test("in place of where it was.", this::learnsAnew);
        sheet.test("If the destination is an address that the switch has learned in this network:",
                this::learnedInThisNetwork);
        sheet.test("if it is at the port where the frame entered, the frame is dropped, for the reason LOCAL;",
                this::local);
        sheet.test("otherwise it leaves at that port alone.", this::leavesAtOnePort);
        sheet.test("If it is 3, or was not learned,", this::toAllOrUnknown);
        sheet.test("the frame leaves at all other ports that belong to the network;", this::allOtherPorts);
        sheet.test("if there are none, it is dropped, for the reason NOWHERE.", this::nowhere);
        sheet.test("A frame leaves untagged at an ACCESS port,", this::untaggedFromAccess);
        sheet.test("and at a TRUNK port of which its network is the native one;", this::untaggedFromNative);
        sheet.test("otherwise it leaves tagged.", this::otherwiseTagged);
        sheet.test("Two frames may have the same source in different networks, at different ports.",
                this::sameSourceInNetworks);
        sheet.test("Ports do not change while frames are run, so that a port where something was learned in a "
                + "network belongs to it, unless a fault let the frame in.", this::portsDoNotChange);
    }

    private void listTheFaults() {
        sheet.test("A port may have any of five faults,", this::anyFaults);
        sheet.test("which are not known to the model.", this::unknownToTheModel);
        sheet.test("DEAD: a frame that enters there is dropped ahead of step 1,", this::deadEntry);
        sheet.test("and no frame leaves there (a frame that was to leave there does not).", this::deadExit);
        sheet.test("DEAF: step 2 is left out for frames that enter there.", this::deaf);
        sheet.test("BARE: all frames leave there untagged.", this::bare);
        sheet.test("STRICT: an untagged frame that enters there is dropped ahead of step 1.", this::strict);
        sheet.test("LOOSE: a tagged frame that enters there gets the network of its tag, whatever the mode of the "
                + "port.", this::loose);
        sheet.test("The faults of a port act together;", this::faultsActTogether);
        sheet.test("a frame that was learned by LOOSE at a port may so leave there, in whatever network, as told "
                + "in step 4.", this::leavesWhereLoose);
    }

    private void listTheFrames() {
        sheet.test("The list of frames has at most 60 frames, numbered from 0.", this::sixtyFrames);
        sheet.test("They are run in this order,", this::runInOrder);
        sheet.test("beginning with a switch that has learned nothing:", this::learnedNothing);
        sheet.test("the model by itself, and the switch with faults by itself.", this::eachByItself);
        sheet.test("A frame has four settings: port, tag, source and destination.", this::fourSettings);
        sheet.test("The values of the settings are all ports, the tags 0 to 4, the sources 0 to 2, and the "
                + "destinations 0 to 3.", this::valuesOfSettings);
        sheet.test("A pair is a value of one setting together with a value of another one;", this::pairsOfValues);
        sheet.test("a frame meets the six pairs of its values.", this::sixPairs);
        sheet.test("A call that throws changes nothing.", this::throwingChangesNothing);
        sheet.test("Where two exceptions apply, the one that is listed first is thrown.", this::firstException);
    }

    private void listTheConstants() {
        sheet.test("The constants: `NONE = -1`: None.", () -> sheet.is("NONE", VlanProbe.NONE, -1));
        sheet.test("`DEAD = 0, DEAF = 1, BARE = 2, STRICT = 3, LOOSE = 4`: Faults.", this::faultNumbers);
        sheet.test("`LEAVES = 0, TAGGED = 1, UNTAGGED = 2, FOREIGN = 3, LOCAL = 4, NOWHERE = 5`: Why a frame is "
                + "dropped by the model; LEAVES if it is not.", this::reasonNumbers);
        sheet.untested("Ahead of the calls `begin`, `ports`, `access`, `trunk`, `fault` the interface says: "
                + "---- the switch.");
        sheet.untested("Ahead of the calls `add`, `cover`, `clear`, `frames`, `frameAt`, `pairs`, `pairsMet` the "
                + "interface says: ---- frames.");
        sheet.untested("Ahead of the calls `expected`, `expectedTagged`, `reason`, `learned` the interface says: "
                + "---- what should be.");
        sheet.untested("Ahead of the calls `seen`, `seenTagged`, `differing`, `differencesAt`, `blame`, `blamed`, "
                + "`explanations` the interface says: ---- what is.");
    }

    // ---- what it is

    private void call512() {
        VlanProbe adding = new VlanProbe();
        for (int k = 0; k < 452; k++) {
            adding.fault(k % 4, k % 5);
        }
        for (int k = 0; k < 59; k++) {
            adding.add(0, 0, 0, 3);
        }
        sheet.is("add as call 512", adding.add(3, 4, 2, 3), 59);
        VlanProbe covering = new VlanProbe();
        for (int k = 0; k < 511; k++) {
            covering.begin(2 + k % 5);
        }
        sheet.is("cover as call 512", covering.cover(), 20);
        VlanProbe refusing = new VlanProbe();
        refusing.add(0, 0, 0, 3);
        for (int k = 0; k < 510; k++) {
            sheet.refused("add", Sheet.INDEX, () -> refusing.add(4, 0, 0, 3));
        }
        sheet.is("seen as call 512", refusing.seen(0), 14);
        VlanProbe blaming = new VlanProbe();
        blaming.add(0, 0, 0, 3);
        for (int k = 0; k < 509; k++) {
            blaming.fault(0, DEAF + k % 2);
        }
        blaming.fault(0, DEAD);
        sheet.is("explanations as call 512", blaming.explanations(), 2);
    }

    // ---- the switch

    private void portsAndNetworks() {
        for (int ports = 2; ports <= 6; ports++) {
            VlanProbe x = Probes.of(ports);
            int last = ports - 1;
            sheet.is("ports", x.ports(), ports);
            x.add(0, 0, 0, 3);
            x.add(last, 0, 1, 3);
            sheet.is("from port 0 of " + ports, x.expected(0), (1 << ports) - 2);
            sheet.is("from the last port of " + ports, x.expected(1), (1 << last) - 1);
            sheet.refused("a port behind the last", Sheet.INDEX, () -> x.add(last + 1, 0, 0, 3));
            sheet.refused("a port ahead of the first", Sheet.INDEX, () -> x.add(-1, 0, 0, 3));
        }
        sheet.refused("1 port", Sheet.ARGUMENT, () -> new VlanProbe().begin(1));
        sheet.refused("7 ports", Sheet.ARGUMENT, () -> new VlanProbe().begin(7));
        for (int one = 1; one <= 4; one++) {
            for (int two = 1; two <= 4; two++) {
                VlanProbe x = Probes.of(2);
                x.access(0, one);
                x.access(1, two);
                x.add(0, 0, 0, 3);
                sheet.is("from network " + one + " to " + two, x.expected(0), one == two ? 2 : 0);
            }
        }
        sheet.refused("network 0", Sheet.ARGUMENT, () -> Probes.of(2).access(0, 0));
        sheet.refused("network 5", Sheet.ARGUMENT, () -> Probes.of(2).access(0, 5));
    }

    private void oneMode() {
        VlanProbe x = Probes.trunks(2);
        x.access(0, 1);
        x.add(0, 0, 0, 3);
        x.add(0, 1, 1, 3);
        x.add(0, 2, 2, 3);
        sheet.is("ACCESS, untagged", x.reason(0), VlanProbe.LEAVES);
        sheet.is("ACCESS, tagged", x.reason(1), VlanProbe.TAGGED);
        x.trunk(0, 2, 0);
        sheet.is("TRUNK, untagged", x.reason(0), VlanProbe.UNTAGGED);
        sheet.is("TRUNK, not of the network that it was of", x.reason(1), VlanProbe.FOREIGN);
        sheet.is("TRUNK, tagged", x.reason(2), VlanProbe.LEAVES);
        x.access(0, 3);
        sheet.is("ACCESS again, untagged", x.learned(3, 0), 0);
        sheet.is("ACCESS again, tagged", x.reason(2), VlanProbe.TAGGED);
        x.clear();
        x.add(1, 2, 0, 3);
        sheet.is("ACCESS again, not of the networks that it was of", x.reason(0), VlanProbe.NOWHERE);
    }

    private void accessHasOneNetwork() {
        for (int network = 1; network <= 4; network++) {
            VlanProbe x = Probes.trunks(2);
            x.access(1, network % 4 + 1);
            x.access(1, network);
            for (int tag = 1; tag <= 4; tag++) {
                x.add(0, tag, 0, 3);
                sheet.is("to access " + network + " in " + tag, x.expected(tag - 1), tag == network ? 2 : 0);
            }
        }
    }

    private void trunkHasASet() {
        for (int set = 1; set <= 15; set++) {
            VlanProbe x = Probes.trunks(2);
            x.trunk(1, 15 - set == 0 ? 1 : 15 - set, 0);
            x.trunk(1, set, 0);
            for (int tag = 1; tag <= 4; tag++) {
                x.add(0, tag, 0, 3);
                boolean belongs = set / (1 << (tag - 1)) % 2 == 1;
                sheet.is("to the set " + set + " in " + tag, x.expected(tag - 1), belongs ? 2 : 0);
            }
        }
    }

    private void trunkMayHaveANative() {
        for (int own = 0; own <= 4; own++) {
            VlanProbe x = Probes.trunks(2);
            x.trunk(1, 15, own);
            for (int tag = 1; tag <= 4; tag++) {
                x.add(0, tag, 0, 3);
                sheet.is("native " + own + " in " + tag, x.expectedTagged(tag - 1), tag == own ? 0 : 2);
            }
            x.add(1, 0, 0, 3);
            sheet.is("native " + own + ", untagged", x.reason(4),
                    own == 0 ? VlanProbe.UNTAGGED : VlanProbe.LEAVES);
        }
    }

    private void portsAndTagsOfFrames() {
        VlanProbe x = Probes.trunks(6);
        for (int port = 0; port <= 5; port++) {
            for (int tag = 0; tag <= 4; tag++) {
                int frame = x.add(port, tag, 0, 3);
                sheet.is("a frame", x.frameAt(frame), 1000 * port + 100 * tag + 3);
                sheet.is("leaves elsewhere", x.expected(frame), tag == 0 ? 0 : 63 - (1 << port));
            }
        }
        sheet.refused("port 6", Sheet.INDEX, () -> x.add(6, 0, 0, 3));
        sheet.refused("tag -1", Sheet.ARGUMENT, () -> x.add(0, -1, 0, 3));
        sheet.refused("tag 5", Sheet.ARGUMENT, () -> x.add(0, 5, 0, 3));
    }

    private void tagsAreNetworks() {
        VlanProbe x = Probes.trunks(2);
        x.trunk(0, 15, 3);
        for (int tag = 1; tag <= 4; tag++) {
            x.clear();
            x.add(0, tag, 2, 3);
            for (int network = 1; network <= 4; network++) {
                sheet.is("tag " + tag + " in " + network, x.learned(network, 2),
                        network == tag ? 0 : VlanProbe.NONE);
            }
        }
        x.clear();
        x.add(0, 0, 2, 3);
        sheet.is("untagged", x.learned(3, 2), 0);
        sheet.is("untagged is no network of its own", x.learned(1, 2), VlanProbe.NONE);
    }

    private void sources() {
        for (int source = 0; source <= 2; source++) {
            VlanProbe x = new VlanProbe();
            x.add(3, 0, source, 3);
            for (int address = 0; address <= 2; address++) {
                sheet.is("source " + source, x.learned(1, address), address == source ? 3 : VlanProbe.NONE);
            }
            sheet.refused("source -1", Sheet.ARGUMENT, () -> x.add(0, 0, -1, 3));
            sheet.refused("source 3", Sheet.ARGUMENT, () -> x.add(0, 0, 3, 3));
        }
    }

    private void destinations() {
        VlanProbe x = Probes.of(5);
        for (int address = 0; address <= 2; address++) {
            x.add(address, 0, address, 3);
        }
        for (int address = 0; address <= 2; address++) {
            int frame = x.add(4, 0, 0, address);
            sheet.is("to " + address, x.expected(frame), address == 0 ? 0 : 1 << address);
            x.add(0, 0, 0, 3);
        }
        sheet.is("to all", x.expected(x.add(4, 0, 0, 3)), 0b01111);
        sheet.refused("destination -1", Sheet.ARGUMENT, () -> x.add(0, 0, 0, -1));
        sheet.refused("destination 4", Sheet.ARGUMENT, () -> x.add(0, 0, 0, 4));
    }

    // ---- the steps

    private void oneNetworkOrDropped() {
        for (int tag = 0; tag <= 4; tag++) {
            VlanProbe x = Probes.trunks(2);
            x.trunk(0, 7, 2);
            x.add(0, tag, 1, 3);
            int networks = 0;
            for (int network = 1; network <= 4; network++) {
                networks += x.learned(network, 1) == 0 ? 1 : 0;
            }
            sheet.is("networks by tag " + tag, networks, tag == 4 ? 0 : 1);
            sheet.is("leaves by tag " + tag, x.expected(0), tag == 4 ? 0 : 2);
        }
    }

    private void untaggedAtAccess() {
        for (int network = 1; network <= 4; network++) {
            VlanProbe x = Probes.trunks(2);
            x.access(0, network);
            x.add(0, 0, 0, 3);
            sheet.is("reason", x.reason(0), VlanProbe.LEAVES);
            sheet.is("leaves", x.expected(0), 2);
            for (int other = 1; other <= 4; other++) {
                sheet.is("learned in " + other, x.learned(other, 0), other == network ? 0 : VlanProbe.NONE);
            }
        }
    }

    private void taggedAtAccess() {
        for (int network = 1; network <= 4; network++) {
            VlanProbe x = Probes.trunks(2);
            x.access(0, network);
            for (int tag = 1; tag <= 4; tag++) {
                x.add(0, tag, 0, 3);
                sheet.is("tag " + tag + " at access " + network, x.reason(tag - 1), VlanProbe.TAGGED);
                sheet.is("leaves", x.expected(tag - 1), 0);
                sheet.is("learned", x.learned(tag, 0), VlanProbe.NONE);
            }
        }
    }

    private void untaggedAtTrunk() {
        for (int own = 1; own <= 4; own++) {
            for (int set : new int[] {1 << (own - 1), 15}) {
                VlanProbe x = Probes.trunks(2);
                x.trunk(0, set, own);
                x.add(0, 0, 1, 3);
                sheet.is("native " + own + " of " + set, x.expected(0), 2);
                for (int network = 1; network <= 4; network++) {
                    sheet.is("learned in " + network, x.learned(network, 1),
                            network == own ? 0 : VlanProbe.NONE);
                }
            }
        }
    }

    private void noNative() {
        for (int set = 1; set <= 15; set++) {
            VlanProbe x = Probes.trunks(2);
            x.trunk(0, set, 0);
            x.add(0, 0, 0, 3);
            sheet.is("untagged at the set " + set, x.reason(0), VlanProbe.UNTAGGED);
            sheet.is("leaves", x.expected(0), 0);
            for (int network = 1; network <= 4; network++) {
                sheet.is("learned in " + network, x.learned(network, 0), VlanProbe.NONE);
            }
        }
    }

    private void taggedAtTrunk() {
        isTaggedAtTrunks(true);
    }

    private void foreignAtTrunk() {
        isTaggedAtTrunks(false);
    }

    private void isTaggedAtTrunks(boolean own) {
        for (int set = 1; set <= 15; set++) {
            for (int tag = 1; tag <= 4; tag++) {
                if ((set & 1 << (tag - 1)) != 0 == own) {
                    isTaggedAtTrunk(set, tag, own);
                }
            }
        }
    }

    private void isTaggedAtTrunk(int set, int tag, boolean belongs) {
        for (int own = 0; own <= 4; own++) {
            if (own == 0 || (set & 1 << (own - 1)) != 0) {
                VlanProbe x = Probes.trunks(2);
                x.trunk(0, set, own);
                x.add(0, tag, 2, 3);
                String what = "tag " + tag + " at the set " + set + ", native " + own;
                sheet.is(what, x.reason(0), belongs ? VlanProbe.LEAVES : VlanProbe.FOREIGN);
                sheet.is(what + ", leaves", x.expected(0), belongs ? 2 : 0);
                sheet.is(what + ", tagged", x.expectedTagged(0), belongs ? 2 : 0);
                sheet.is(what + ", learned", x.learned(tag, 2), belongs ? 0 : VlanProbe.NONE);
            }
        }
    }

    private void learns() {
        VlanProbe x = Probes.trunks(6);
        for (int network = 1; network <= 4; network++) {
            for (int address = 0; address <= 2; address++) {
                sheet.is("not yet", x.learned(network, address), VlanProbe.NONE);
                int port = (network + address) % 6;
                x.add(port, network, address, 3);
                sheet.is("learned", x.learned(network, address), port);
            }
        }
        sheet.is("the first of all is not forgotten", x.learned(1, 0), 1);
        VlanProbe y = Probes.mixed();
        y.add(0, 0, 0, 0);
        sheet.is("dropped as LOCAL", y.reason(0), VlanProbe.LOCAL);
        sheet.is("learned ahead of that", y.learned(1, 0), 0);
        y.add(4, 4, 1, 3);
        sheet.is("dropped as NOWHERE", y.reason(1), VlanProbe.NOWHERE);
        sheet.is("learned ahead of that, too", y.learned(4, 1), 4);
        y.add(0, 1, 2, 3);
        sheet.is("dropped in step 1", y.learned(1, 2), VlanProbe.NONE);
    }

    private void learnsAnew() {
        VlanProbe x = Probes.of(6);
        x.add(0, 0, 0, 3);
        x.add(5, 0, 0, 3);
        x.add(2, 0, 1, 0);
        sheet.is("moved to the last port", x.learned(1, 0), 5);
        sheet.is("is sent there alone", x.expected(2), 0b100000);
        x.add(0, 0, 0, 3);
        x.add(2, 0, 1, 0);
        sheet.is("moved back", x.learned(1, 0), 0);
        sheet.is("is sent back there", x.expected(4), 0b000001);
        x.add(2, 0, 0, 0);
        sheet.is("moved by a frame that is dropped", x.learned(1, 0), 2);
        x.add(0, 1, 0, 3);
        sheet.is("not moved by a tagged one", x.learned(1, 0), 2);
    }

    private void learnedInThisNetwork() {
        for (int one = 1; one <= 4; one++) {
            for (int two = 1; two <= 4; two++) {
                VlanProbe x = Probes.trunks(3);
                x.add(0, one, 0, 3);
                x.add(1, two, 1, 0);
                sheet.is("learned in " + one + ", sent in " + two, x.expected(1), one == two ? 0b001 : 0b101);
            }
        }
    }

    private void local() {
        for (int address = 0; address <= 2; address++) {
            VlanProbe x = new VlanProbe();
            int other = (address + 1) % 3;
            x.add(3, 0, address, address);
            sheet.is("to its own source", x.reason(0), VlanProbe.LOCAL);
            sheet.is("leaves", x.expected(0), 0);
            x.add(3, 0, other, address);
            sheet.is("to another source of the port", x.reason(1), VlanProbe.LOCAL);
            x.add(2, 0, address, address);
            sheet.is("to its own source, at the last frame elsewhere", x.reason(2), VlanProbe.LOCAL);
            x.add(3, 0, other, address);
            sheet.is("to a source that has moved", x.reason(3), VlanProbe.LEAVES);
        }
    }

    private void leavesAtOnePort() {
        for (int there = 0; there <= 5; there++) {
            for (int here = 0; here <= 5; here++) {
                VlanProbe x = Probes.of(6);
                x.add(there, 0, 1, 3);
                x.add(here, 0, 2, 1);
                sheet.is("from " + here + " to " + there, x.expected(1), here == there ? 0 : 1 << there);
            }
        }
    }

    private void toAllOrUnknown() {
        VlanProbe x = new VlanProbe();
        for (int address = 0; address <= 2; address++) {
            x.clear();
            x.add(1, 0, (address + 1) % 3, address);
            sheet.is("to " + address + ", not learned", x.expected(0), 0b1101);
            x.add(2, 0, (address + 2) % 3, address);
            sheet.is("to " + address + ", not learned yet", x.expected(1), 0b1011);
            x.add(3, 0, address, 3);
            x.add(0, 0, (address + 2) % 3, 3);
            sheet.is("to all, with all learned", x.expected(3), 0b1110);
        }
    }

    private void allOtherPorts() {
        int[][] due = {
            {0, 0, 0b010010}, {1, 0, 0b010001}, {2, 0, 0b011000}, {2, 2, 0b011000}, {2, 3, 0b110000},
            {3, 0, 0b010100}, {4, 1, 0b000011}, {4, 2, 0b001100}, {4, 3, 0b100100}, {5, 0, 0b010100},
        };
        for (int[] row : due) {
            VlanProbe x = Probes.mixed();
            x.add(row[0], row[1], 0, 3);
            x.add(row[0], row[1], 0, 1);
            sheet.is("to all from " + row[0] + ", tag " + row[1], x.expected(0), row[2]);
            sheet.is("to one from " + row[0] + ", tag " + row[1], x.expected(1), row[2]);
        }
    }

    private void nowhere() {
        VlanProbe x = Probes.mixed();
        x.add(4, 4, 0, 3);
        x.add(4, 4, 0, 1);
        sheet.is("to all", x.reason(0), VlanProbe.NOWHERE);
        sheet.is("to one that was not learned", x.reason(1), VlanProbe.NOWHERE);
        sheet.is("leaves", x.expected(0) + x.expected(1), 0);
        x.trunk(2, 8, 0);
        sheet.is("one other port", x.reason(0), VlanProbe.LEAVES);
        VlanProbe y = Probes.of(2);
        y.access(1, 2);
        y.add(0, 0, 0, 3);
        y.add(1, 0, 0, 2);
        sheet.is("port 0 of two", y.reason(0), VlanProbe.NOWHERE);
        sheet.is("port 1 of two", y.reason(1), VlanProbe.NOWHERE);
    }

    private void untaggedFromAccess() {
        for (int network = 1; network <= 4; network++) {
            VlanProbe x = Probes.trunks(3);
            x.access(1, network);
            x.add(0, network, 0, 3);
            sheet.is("leaves in " + network, x.expected(0), 0b110);
            sheet.is("tagged in " + network, x.expectedTagged(0), 0b100);
        }
    }

    private void untaggedFromNative() {
        for (int own = 1; own <= 4; own++) {
            VlanProbe x = Probes.trunks(3);
            x.trunk(1, 15, own);
            x.trunk(2, 1 << (own - 1), own);
            x.add(0, own, 0, 3);
            sheet.is("leaves in " + own, x.expected(0), 0b110);
            sheet.is("tagged in " + own, x.expectedTagged(0), 0);
        }
    }

    private void otherwiseTagged() {
        for (int network = 1; network <= 4; network++) {
            VlanProbe x = Probes.trunks(3);
            x.trunk(1, 15, network % 4 + 1);
            x.add(0, network, 0, 3);
            sheet.is("another is native, or none", x.expectedTagged(0), 0b110);
            x.add(1, network, 1, 0);
            sheet.is("to one port", x.expectedTagged(1), 0b001);
        }
    }

    private void sameSourceInNetworks() {
        VlanProbe x = Probes.of(5);
        x.trunk(4, 15, 0);
        for (int network = 1; network <= 4; network++) {
            x.access(network - 1, network);
            x.add(network - 1, 0, 0, 3);
        }
        for (int network = 1; network <= 4; network++) {
            sheet.is("learned in " + network, x.learned(network, 0), network - 1);
            int frame = x.add(4, network, 1, 0);
            sheet.is("sent in " + network, x.expected(frame), 1 << (network - 1));
        }
    }

    private void portsDoNotChange() {
        VlanProbe x = Probes.of(3);
        x.add(0, 0, 0, 3);
        x.add(1, 0, 1, 0);
        sheet.is("to where it was learned", x.expected(1), 0b001);
        x.access(0, 2);
        sheet.is("the first frame is run with the port as it is now", x.reason(0), VlanProbe.NOWHERE);
        sheet.is("and learned so", x.learned(2, 0), 0);
        sheet.is("not as the port was", x.learned(1, 0), VlanProbe.NONE);
        sheet.is("the model's second frame", x.expected(1), 0b100);
        sheet.is("the switch's second frame", x.seen(1), 0b100);
        x.fault(0, LOOSE);
        x.clear();
        x.add(0, 1, 0, 3);
        x.add(1, 0, 1, 0);
        sheet.is("a fault let it in", x.seen(1), 0b001);
        sheet.is("the model did not", x.expected(1), 0b100);
    }

    // ---- faults

    private void anyFaults() {
        for (int set = 0; set < 32; set++) {
            VlanProbe x = Probes.of(6);
            StringBuilder due = new StringBuilder(", faults");
            for (int port = 0; port <= 5; port++) {
                for (int kind = DEAD; kind <= LOOSE; kind++) {
                    if ((set >> kind & 1) != 0) {
                        sheet.is("given", x.fault(port, kind), true);
                        due.append(' ').append(10 * port + kind);
                    }
                }
            }
            sheet.same("the faults of the set " + set, Probes.faultsOf(x), due.toString());
        }
    }

    private void unknownToTheModel() {
        VlanProbe x = Probes.mixed();
        x.cover();
        String due = modelOf(x);
        for (int number = 0; number < 30; number++) {
            x.fault(number / 5, number % 5);
        }
        sheet.same("the model with every fault", modelOf(x), due);
        for (int kind = DEAD; kind <= LOOSE; kind++) {
            VlanProbe y = Probes.mixed();
            y.cover();
            y.fault(4, kind);
            y.fault(0, kind);
            sheet.same("the model with the faults " + kind, modelOf(y), due);
        }
    }

    private static String modelOf(VlanProbe x) {
        StringBuilder text = new StringBuilder();
        int frames = x.frames();
        for (int k = 0; k < frames; k++) {
            text.append(' ').append(x.expected(k)).append('/').append(x.expectedTagged(k))
                    .append('/').append(x.reason(k));
        }
        for (int k = 0; k < 12; k++) {
            text.append(' ').append(x.learned(1 + k / 3, k % 3));
        }
        return text.toString();
    }

    private void deadEntry() {
        VlanProbe x = Probes.trunks(3);
        x.trunk(1, 15, 2);
        x.fault(1, DEAD);
        x.add(1, 0, 0, 3);
        x.add(1, 2, 1, 3);
        x.add(0, 2, 2, 0);
        x.add(0, 2, 2, 1);
        sheet.is("untagged", x.seen(0), 0);
        sheet.is("tagged", x.seen(1), 0);
        sheet.is("not learned from the untagged one", x.seen(2), 0b100);
        sheet.is("not learned from the tagged one", x.seen(3), 0b100);
        x.clear();
        x.add(0, 2, 0, 3);
        x.add(1, 2, 0, 3);
        x.add(2, 2, 1, 0);
        sheet.is("what was learned elsewhere stays", x.seen(2), 0b001);
    }

    private void deadExit() {
        VlanProbe x = Probes.trunks(3);
        x.add(0, 1, 0, 3);
        x.add(0, 1, 0, 1);
        x.fault(1, DEAD);
        sheet.is("to all", x.seen(0), 0b100);
        sheet.is("to one that was not learned", x.seen(1), 0b100);
        sheet.is("tagged", x.seenTagged(0), 0b100);
        x.fault(2, DEAD);
        sheet.is("no port is left", x.seen(0), 0);
        sheet.is("nor tagged at one", x.seenTagged(0), 0);
        x.fault(1, DEAD);
        sheet.is("the other one again", x.seen(0), 0b010);
    }

    private void deaf() {
        VlanProbe x = new VlanProbe();
        x.add(0, 0, 0, 3);
        x.add(1, 0, 0, 0);
        x.add(2, 0, 1, 0);
        x.fault(1, DEAF);
        sheet.is("where it was stays: leaves there", x.seen(1), 0b0001);
        sheet.is("where it was stays for others", x.seen(2), 0b0001);
        x.fault(0, DEAF);
        sheet.is("enters all the same", x.seen(0), 0b1110);
        sheet.is("not even learned for itself", x.seen(1), 0b1101);
        sheet.is("learned nowhere", x.seen(2), 0b1011);
        x.add(3, 0, 2, 1);
        sheet.is("other ports learn", x.seen(3), 0b0100);
    }

    private void bare() {
        VlanProbe x = Probes.trunks(3);
        x.trunk(2, 15, 3);
        x.fault(1, BARE);
        for (int tag = 1; tag <= 4; tag++) {
            int flood = x.add(0, tag, 0, 3);
            sheet.is("leaves all the same", x.seen(flood), 0b110);
            sheet.is("untagged in " + tag + ", at that port alone", x.seenTagged(flood), tag == 3 ? 0 : 0b100);
            int answer = x.add(1, tag, 1, 0);
            sheet.is("what enters there leaves tagged", x.seenTagged(answer), 0b001);
            int back = x.add(2, tag, 2, 1);
            sheet.is("to that port alone", x.seen(back), 0b010);
            sheet.is("untagged to that port alone", x.seenTagged(back), 0);
        }
    }

    private void strict() {
        VlanProbe x = new VlanProbe();
        x.trunk(1, 3, 1);
        x.fault(0, STRICT);
        x.fault(1, STRICT);
        x.add(0, 0, 0, 3);
        x.add(1, 0, 1, 3);
        x.add(2, 0, 2, 0);
        x.add(2, 0, 2, 1);
        sheet.is("untagged at an ACCESS port", x.seen(0), 0);
        sheet.is("untagged at a TRUNK port", x.seen(1), 0);
        sheet.is("not learned there; untagged ones leave there", x.seen(2), 0b1011);
        sheet.is("nor at the other one", x.seen(3), 0b1011);
        x.add(1, 1, 1, 3);
        sheet.is("tagged at a TRUNK port", x.seen(4), 0b1101);
        x.add(2, 0, 2, 1);
        sheet.is("the tagged one was learned", x.seen(5), 0b0010);
        x.add(0, 1, 0, 3);
        sheet.is("tagged at an ACCESS port is dropped in step 1", x.seen(6), 0);
    }

    private void loose() {
        VlanProbe x = Probes.trunks(4);
        x.access(0, 2);
        x.trunk(1, 5, 0);
        x.fault(0, LOOSE);
        x.fault(1, LOOSE);
        int[] dueAtAccess = {0b1110, 0b1100, 0b1110, 0b1100};
        int[] dueAtTrunk = {0b1100, 0b1101, 0b1100, 0b1100};
        for (int tag = 1; tag <= 4; tag++) {
            sheet.is("ACCESS 2, tag " + tag, x.seen(x.add(0, tag, 0, 3)), dueAtAccess[tag - 1]);
            sheet.is("TRUNK {1, 3}, tag " + tag, x.seen(x.add(1, tag, 1, 3)), dueAtTrunk[tag - 1]);
            sheet.is("is learned there", x.seen(x.add(2, tag, 2, 1)), 0b0010);
        }
        sheet.is("untagged at the ACCESS port", x.seen(x.add(0, 0, 0, 3)), 0b1100);
        sheet.is("untagged at the TRUNK port", x.seen(x.add(1, 0, 1, 3)), 0);
        x.fault(0, LOOSE);
        x.fault(1, LOOSE);
        sheet.is("ACCESS, without the fault", x.seen(0), 0);
        sheet.is("TRUNK, foreign, without the fault", x.seen(4), 0);
        sheet.is("TRUNK, not foreign, without the fault", x.seen(1), 0b1100);
    }

    /** Ports: 0 access 1, 1 and 2 access 2, 3 trunk {1} without a native one; a fault lets in at 0 or 3. */
    private VlanProbe looseAt(int port, int... kinds) {
        VlanProbe x = new VlanProbe();
        x.access(1, 2);
        x.access(2, 2);
        x.trunk(3, 1, 0);
        x.fault(port, LOOSE);
        for (int kind : kinds) {
            x.fault(port, kind);
        }
        x.add(port, 2, 0, 3);
        x.add(1, 0, 1, 0);
        x.add(0, 0, 2, 3);
        return x;
    }

    private void faultsActTogether() {
        areSeen("LOOSE at 0", looseAt(0), 0b0110, 0b0001, 0, 0b1000);
        areSeen("LOOSE and DEAD at 0", looseAt(0, DEAD), 0, 0b0100, 0, 0);
        areSeen("LOOSE and DEAF at 0", looseAt(0, DEAF), 0b0110, 0b0100, 0, 0b1000);
        areSeen("LOOSE and BARE at 0", looseAt(0, BARE), 0b0110, 0b0001, 0, 0b1000);
        areSeen("LOOSE and STRICT at 0", looseAt(0, STRICT), 0b0110, 0b0001, 0, 0);
        areSeen("LOOSE at 3", looseAt(3), 0b0110, 0b1000, 0b1000, 0b1000);
        areSeen("LOOSE and DEAD at 3", looseAt(3, DEAD), 0, 0b0100, 0, 0);
        areSeen("LOOSE and DEAF at 3", looseAt(3, DEAF), 0b0110, 0b0100, 0, 0b1000);
        areSeen("LOOSE and BARE at 3", looseAt(3, BARE), 0b0110, 0b1000, 0, 0b1000);
        areSeen("LOOSE and STRICT at 3", looseAt(3, STRICT), 0b0110, 0b1000, 0b1000, 0b1000);
        areSeen("DEAF and STRICT too", looseAt(0, DEAF, STRICT), 0b0110, 0b0100, 0, 0);
        areSeen("DEAF and BARE too", looseAt(3, DEAF, BARE), 0b0110, 0b0100, 0, 0b1000);
        areSeen("all five at 0", looseAt(0, DEAD, DEAF, BARE, STRICT), 0, 0b0100, 0, 0);
        areSeen("all five at 3", looseAt(3, DEAD, DEAF, BARE, STRICT), 0, 0b0100, 0, 0);
    }

    private void areSeen(String what, VlanProbe x, int first, int second, int secondTagged, int third) {
        sheet.is(what + ", the frame that is let in", x.seen(0), first);
        sheet.is(what + ", the one back to it", x.seen(1), second);
        sheet.is(what + ", the one back to it, tagged", x.seenTagged(1), secondTagged);
        sheet.is(what + ", the untagged one from 0", x.seen(2), third);
    }

    private void leavesWhereLoose() {
        for (int tag = 2; tag <= 4; tag++) {
            VlanProbe x = Probes.trunks(4);
            x.access(0, 1);
            x.trunk(1, 1, 1);
            x.fault(0, LOOSE);
            x.fault(1, LOOSE);
            x.add(0, tag, 0, 3);
            x.add(1, tag, 1, 0);
            x.add(2, tag, 2, 1);
            x.add(3, tag, 2, 3);
            x.add(0, tag, 2, 0);
            sheet.is("neither port belongs to it", x.seen(0), 0b1100);
            sheet.is("leaves at the ACCESS port", x.seen(1), 0b0001);
            sheet.is("untagged at the ACCESS port", x.seenTagged(1), 0);
            sheet.is("leaves at the TRUNK port", x.seen(2), 0b0010);
            sheet.is("tagged at the TRUNK port", x.seenTagged(2), 0b0010);
            sheet.is("to all does not leave there", x.seen(3), 0b0100);
            sheet.is("from there to there", x.seen(4), 0);
            x.trunk(0, 1, 0);
            sheet.is("tagged where it is a TRUNK port", x.seenTagged(1), 0b0001);
            x.access(1, 1);
            sheet.is("untagged where it is an ACCESS port", x.seenTagged(2), 0);
            sheet.is("leaves there all the same", x.seen(2), 0b0010);
        }
    }

    // ---- frames

    private void sixtyFrames() {
        VlanProbe x = new VlanProbe();
        for (int k = 0; k <= 59; k++) {
            sheet.is("its number", x.add(0, 0, 0, 3), k);
        }
        sheet.refused("one more", Sheet.STATE, () -> x.add(0, 0, 0, 3));
        sheet.is("frames", x.frames(), 60);
        sheet.onlyFrames("frameAt", 60, k -> x.frameAt(k));
    }

    private void runInOrder() {
        VlanProbe x = new VlanProbe();
        x.add(0, 0, 0, 3);
        x.add(1, 0, 1, 0);
        x.add(2, 0, 0, 3);
        sheet.is("learned ahead", x.expected(1), 0b0001);
        sheet.is("learned ahead, on the switch", x.seen(1), 0b0001);
        sheet.is("the last place", x.learned(1, 0), 2);
        VlanProbe y = new VlanProbe();
        y.add(2, 0, 0, 3);
        y.add(1, 0, 1, 0);
        y.add(0, 0, 0, 3);
        sheet.is("learned ahead, the other way round", y.expected(1), 0b0100);
        sheet.is("on the switch, the other way round", y.seen(1), 0b0100);
        sheet.is("the last place, the other way round", y.learned(1, 0), 0);
    }

    private void learnedNothing() {
        VlanProbe x = new VlanProbe();
        for (int time = 0; time < 3; time++) {
            x.add(1, 0, 1, 0);
            sheet.is("nothing is learned ahead of it", x.expected(0), 0b1101);
            sheet.is("nor on the switch", x.seen(0), 0b1101);
            x.add(0, 0, 0, 3);
            sheet.is("what comes behind it changes nothing", x.expected(0), 0b1101);
            sheet.is("nor on the switch", x.seen(0), 0b1101);
            x.fault(3, DEAF);
            sheet.is("nor a fault that does not show", x.seen(0), 0b1101);
            sheet.is("no difference", x.differing(), 0);
            x.clear();
            sheet.is("learned nothing", x.learned(1, 0), VlanProbe.NONE);
        }
    }

    private void eachByItself() {
        VlanProbe x = Probes.of(4);
        x.add(0, 0, 0, 3);
        x.add(1, 0, 1, 0);
        x.fault(0, DEAF);
        sheet.is("the model has learned it", x.expected(1), 0b0001);
        sheet.is("and the switch has not", x.seen(1), 0b1101);
        sheet.is("learned is the model's", x.learned(1, 0), 0);
        x.clear();
        x.access(2, 2);
        x.access(3, 2);
        x.fault(0, LOOSE);
        x.fault(0, DEAF);
        x.add(0, 2, 0, 3);
        x.add(2, 0, 1, 0);
        sheet.is("the switch has learned it", x.seen(1), 0b0001);
        sheet.is("and the model has not", x.expected(1), 0b1000);
        sheet.is("learned is still the model's", x.learned(2, 0), VlanProbe.NONE);
    }

    private void fourSettings() {
        VlanProbe x = Probes.of(6);
        int[] due = {0, 5000, 400, 20, 3, 5423, 1213};
        for (int frame : due) {
            int number = x.add(frame / 1000, frame / 100 % 10, frame / 10 % 10, frame % 10);
            sheet.is("its settings", x.frameAt(number), frame);
        }
    }

    private void valuesOfSettings() {
        for (int ports = 2; ports <= 6; ports++) {
            VlanProbe x = Probes.of(ports);
            sheet.is("pairs of " + ports, x.pairs(), 12 * ports + 47);
            x.cover();
            int[] met = new int[4];
            int frames = x.frames();
            for (int k = 0; k < frames; k++) {
                int frame = x.frameAt(k);
                met[0] |= 1 << frame / 1000;
                met[1] |= 1 << frame / 100 % 10;
                met[2] |= 1 << frame / 10 % 10;
                met[3] |= 1 << frame % 10;
            }
            sheet.is("the ports", met[0], (1 << ports) - 1);
            sheet.is("the tags", met[1], 0b11111);
            sheet.is("the sources", met[2], 0b111);
            sheet.is("the destinations", met[3], 0b1111);
        }
    }

    private void pairsOfValues() {
        arePairs("the same frame", 6, 0, 0);
        arePairs("another port", 9, 0, 1000);
        arePairs("another tag", 9, 0, 100);
        arePairs("another source", 9, 0, 10);
        arePairs("another destination", 9, 0, 1);
        arePairs("another port and tag", 11, 0, 1100);
        arePairs("another port and source", 11, 0, 1010);
        arePairs("another port and destination", 11, 0, 1001);
        arePairs("another tag and source", 11, 0, 110);
        arePairs("another tag and destination", 11, 0, 101);
        arePairs("another source and destination", 11, 0, 11);
        arePairs("one setting stays", 12, 0, 111);
        arePairs("port and tag change places", 11, 1200, 2100);
        arePairs("source and destination change places", 11, 12, 21);
        arePairs("four frames that share some", 18, 0, 110, 1010, 1100);
    }

    private void arePairs(String what, int due, int... frames) {
        VlanProbe x = new VlanProbe();
        for (int frame : frames) {
            x.add(frame / 1000, frame / 100 % 10, frame / 10 % 10, frame % 10);
        }
        sheet.is(what, x.pairsMet(), due);
    }

    private void sixPairs() {
        for (int port = 0; port <= 5; port++) {
            VlanProbe x = Probes.of(6);
            for (int k = 0; k < 60; k++) {
                x.clear();
                x.add(port, k / 12, k / 4 % 3, k % 4);
                sheet.is("pairs of " + x.frameAt(0), x.pairsMet(), 6);
            }
        }
    }

    private void throwingChangesNothing() {
        changesNothing("begin(7)", Sheet.ARGUMENT, x -> x.begin(7));
        changesNothing("access(6, 1)", Sheet.INDEX, x -> x.access(6, 1));
        changesNothing("access(2, 5)", Sheet.ARGUMENT, x -> x.access(2, 5));
        changesNothing("trunk(6, 1, 0)", Sheet.INDEX, x -> x.trunk(6, 1, 0));
        changesNothing("trunk(1, 16, 0)", Sheet.ARGUMENT, x -> x.trunk(1, 16, 0));
        changesNothing("trunk(1, 6, 1)", Sheet.ARGUMENT, x -> x.trunk(1, 6, 1));
        changesNothing("fault(6, 0)", Sheet.INDEX, x -> x.fault(6, DEAD));
        changesNothing("fault(4, 5)", Sheet.ARGUMENT, x -> x.fault(4, 5));
        changesNothing("add(6, 0, 0, 0)", Sheet.INDEX, x -> x.add(6, 0, 0, 0));
        changesNothing("add(4, 5, 0, 0)", Sheet.ARGUMENT, x -> x.add(4, 5, 0, 0));
        changesNothing("add(4, 1, 3, 0)", Sheet.ARGUMENT, x -> x.add(4, 1, 3, 0));
        changesNothing("add(4, 1, 0, 4)", Sheet.ARGUMENT, x -> x.add(4, 1, 0, 4));
        changesNothing("frameAt(7)", Sheet.INDEX, x -> x.frameAt(7));
        changesNothing("expected(7)", Sheet.INDEX, x -> x.expected(7));
        changesNothing("expectedTagged(7)", Sheet.INDEX, x -> x.expectedTagged(7));
        changesNothing("reason(7)", Sheet.INDEX, x -> x.reason(7));
        changesNothing("learned(5, 0)", Sheet.ARGUMENT, x -> x.learned(5, 0));
        changesNothing("learned(1, 3)", Sheet.ARGUMENT, x -> x.learned(1, 3));
        changesNothing("seen(7)", Sheet.INDEX, x -> x.seen(7));
        changesNothing("seenTagged(7)", Sheet.INDEX, x -> x.seenTagged(7));
        changesNothing("differencesAt(6)", Sheet.INDEX, x -> x.differencesAt(6));
        changesNothing("blamed(2)", Sheet.INDEX, x -> x.blamed(2));
        VlanProbe full = Probes.busy();
        Probes.fill(full, 60, 0, 0, 0, 0);
        sheet.changesNothing(full, "add to 60 frames", Sheet.STATE, x -> x.add(1, 0, 2, 3));
        VlanProbe nearlyFull = Probes.busy();
        Probes.fill(nearlyFull, 50, 0, 0, 0, 0);
        sheet.changesNothing(nearlyFull, "cover of 50 frames", Sheet.STATE, x -> x.cover());
    }

    private void changesNothing(String what, Class<? extends RuntimeException> due, Sheet.ProbeCall call) {
        sheet.changesNothing(Probes.busy(), what, due, call);
    }

    private void firstException() {
        VlanProbe x = new VlanProbe();
        sheet.refused("access, port and network", Sheet.INDEX, () -> x.access(4, 5));
        sheet.refused("access, port and network", Sheet.INDEX, () -> x.access(-1, 0));
        sheet.refused("trunk, port and networks", Sheet.INDEX, () -> x.trunk(4, 16, 0));
        sheet.refused("trunk, port and native one", Sheet.INDEX, () -> x.trunk(-1, 1, 2));
        sheet.refused("trunk, port, networks and native one", Sheet.INDEX, () -> x.trunk(4, 0, 5));
        sheet.refused("fault, port and fault", Sheet.INDEX, () -> x.fault(4, 5));
        sheet.refused("fault, port and fault", Sheet.INDEX, () -> x.fault(-1, -1));
        sheet.refused("add, port and tag", Sheet.INDEX, () -> x.add(4, 5, 0, 0));
        sheet.refused("add, port and source", Sheet.INDEX, () -> x.add(4, 0, 3, 0));
        sheet.refused("add, port and destination", Sheet.INDEX, () -> x.add(-1, 0, 0, 4));
        Probes.fill(x, 60, 0, 0, 0, 0);
        sheet.refused("add to 60, port", Sheet.INDEX, () -> x.add(4, 0, 0, 0));
        sheet.refused("add to 60, port and tag", Sheet.INDEX, () -> x.add(-1, -1, 0, 0));
        sheet.refused("add to 60, tag", Sheet.ARGUMENT, () -> x.add(0, 5, 0, 0));
        sheet.refused("add to 60, source", Sheet.ARGUMENT, () -> x.add(0, 0, 3, 0));
        sheet.refused("add to 60, destination", Sheet.ARGUMENT, () -> x.add(0, 0, 0, 4));
        sheet.refused("add to 60", Sheet.STATE, () -> x.add(0, 0, 0, 0));
    }

    // ---- the constants

    private void faultNumbers() {
        sheet.is("DEAD", DEAD, 0);
        sheet.is("DEAF", DEAF, 1);
        sheet.is("BARE", BARE, 2);
        sheet.is("STRICT", STRICT, 3);
        sheet.is("LOOSE", LOOSE, 4);
    }

    private void reasonNumbers() {
        sheet.is("LEAVES", VlanProbe.LEAVES, 0);
        sheet.is("TAGGED", VlanProbe.TAGGED, 1);
        sheet.is("UNTAGGED", VlanProbe.UNTAGGED, 2);
        sheet.is("FOREIGN", VlanProbe.FOREIGN, 3);
        sheet.is("LOCAL", VlanProbe.LOCAL, 4);
        sheet.is("NOWHERE", VlanProbe.NOWHERE, 5);
    }
}
