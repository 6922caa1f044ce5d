/** Switches with which several tests begin, and what of a switch can be asked. */
final class Probes {
    private Probes() {
    }

    /** ACCESS ports of the network 1. */
    static VlanProbe of(int ports) {
        VlanProbe x = new VlanProbe();
        x.begin(ports);
        return x;
    }

    /** TRUNK ports of all networks, none of them native. */
    static VlanProbe trunks(int ports) {
        VlanProbe x = of(ports);
        for (int port = 0; port < ports; port++) {
            x.trunk(port, 15, 0);
        }
        return x;
    }

    /** Six ports: 0 and 1 access 1, 2 trunk {2, 3} native 2, 3 access 2, 4 trunk {1..4}, 5 access 3. */
    static VlanProbe mixed() {
        VlanProbe x = of(6);
        x.trunk(2, 6, 2);
        x.access(3, 2);
        x.trunk(4, 15, 0);
        x.access(5, 3);
        return x;
    }

    /** The mixed one, with two faults, and with frames that tell how each port is set. */
    static VlanProbe busy() {
        VlanProbe x = mixed();
        x.fault(4, VlanProbe.BARE);
        x.fault(0, VlanProbe.DEAF);
        for (int network = 1; network <= 4; network++) {
            x.add(4, network, 0, 3);
        }
        x.add(0, 0, 1, 2);
        x.add(1, 0, 2, 1);
        x.add(5, 0, 1, 0);
        return x;
    }

    /** A list of this many frames, all of them the same one. */
    static void fill(VlanProbe x, int frames, int port, int tag, int source, int destination) {
        for (int k = x.frames(); k < frames; k++) {
            x.add(port, tag, source, destination);
        }
    }

    static long allFrames(int frames) {
        return (1L << frames) - 1;
    }

    /**
     * Every answer that there is, but of a long list only those of its first and last frames: an
     * object is good for 512 calls, and a test asks this twice.
     */
    static String stateOf(VlanProbe x) {
        StringBuilder text = new StringBuilder();
        int frames = x.frames();
        text.append(x.ports()).append(" ports, ").append(frames).append(" frames");
        for (int k = 0; k < frames; k++) {
            if (k < 8 || k >= frames - 2) {
                text.append(' ').append(x.frameAt(k))
                        .append(':').append(x.expected(k)).append('/').append(x.expectedTagged(k))
                        .append('/').append(x.reason(k))
                        .append(':').append(x.seen(k)).append('/').append(x.seenTagged(k));
            }
        }
        text.append(", pairs ").append(x.pairs()).append('/').append(x.pairsMet()).append(", learned");
        for (int network = 1; network <= 4; network++) {
            for (int address = 0; address <= 2; address++) {
                text.append(' ').append(x.learned(network, address));
            }
        }
        return text.append(", differing ").append(x.differing())
                .append(differencesOf(x)).append(blameOf(x)).append(faultsOf(x)).toString();
    }

    private static String differencesOf(VlanProbe x) {
        StringBuilder text = new StringBuilder(", at");
        int ports = x.ports();
        for (int port = 0; port < ports; port++) {
            text.append(' ').append(x.differencesAt(port));
        }
        return text.toString();
    }

    static String blameOf(VlanProbe x) {
        StringBuilder text = new StringBuilder(", blame ");
        int fewest = x.blame();
        text.append(fewest).append(" of ").append(x.explanations()).append(':');
        for (int place = 0; place < fewest; place++) {
            text.append(' ').append(x.blamed(place));
        }
        return text.toString();
    }

    /** A fault can be asked by giving it twice alone. */
    static String faultsOf(VlanProbe x) {
        StringBuilder text = new StringBuilder(", faults");
        int ports = x.ports();
        for (int port = 0; port < ports; port++) {
            for (int kind = 0; kind < 5; kind++) {
                x.fault(port, kind);
                if (x.fault(port, kind)) {
                    text.append(' ').append(10 * port + kind);
                }
            }
        }
        return text.toString();
    }
}
