/** Circuits whose answers can be found by hand. */
final class Circuits {
    /** Node 2 lies halfway between the source and the output 3 and is the minus input: the output is minus the source. */
    static final String INVERTER = "s110;r121;r231;o023";
    /** The same with exchanged inputs: positive feedback, so it is high or low and stays so as long as it can. */
    static final String SCHMITT = "s10;r121;r231;o203";
    /** An inverter with the output 3, and behind it a trigger with the output 5. */
    static final String INVERTER_AND_SCHMITT = "s110;r121;r231;o023;r341;r451;o405";
    /** Two amplifiers that each make the other the opposite, a memory; a source at the first one's plus input. */
    static final String LATCH = "s10;o143;o034";
    /** Without a way back; where both sources are equal no case holds, and the desk is not settled. */
    static final String GAP = "s110;s25;o123";
    /** 12 parts, 3 amplifiers and all nodes: the inverter, the trigger, and an amplifier that compares them. */
    static final String FULL = "s110;r121;r231;o023;r341;r451;o405;o156;r601;r614;r302;r502";

    private Circuits() {
    }
}
