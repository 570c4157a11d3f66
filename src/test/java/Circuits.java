/** Circuits whose answers can be found by hand. */
final class Circuits {
    /** Node 2 lies halfway between the source and the output 3 and is the minus input: the output is minus the source. */
    static final String INVERTER = "s110;r121;r231;o023";
    /** The same with exchanged inputs: positive feedback, so it is high or low and stays so as long as it can. */
    static final String SCHMITT = "s10;r121;r231;o203";
    /** An inverter with the output 3, and behind it a trigger with the output 5. */
    static final String INVERTER_AND_SCHMITT = "s110;r121;r231;o023;r341;r451;o405";
    /** Two amplifiers that each make the other the opposite, a memory; a source at the first one's plus input. */
    static final String LATCH = "s10;o143;o034";

    private Circuits() {
    }
}
