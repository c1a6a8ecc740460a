public final class Example {
  public static void main(String[] args) {
    CoverKeys x = new CoverKeys();        // a tree of depth 4 with the seed 0: decoders 0 .. 15
    x.begin(3, 0x1234L, 0x5678L);         // in its place one of depth 3 with another seed: decoders 0 .. 7

    System.out.println("labels that a decoder stores: " + x.install(5) + ", " + x.install(2));
    for (int d = 0; d < 8; d++) {
      x.subscribe(d, 0, d != 2);          // all but decoder 2 subscribe to channel 0
    }

    System.out.println("subsets: " + x.period(0, 11L, 22L));    // its first period has the key (11, 22)
    System.out.println("the first: (" + x.subset(0, 0, false) + ", " + x.subset(0, 0, true) + ")");
    System.out.println("bytes on the air: " + x.packet(0, 0));
    x.flip(9, 1);
    System.out.println("spoilt: " + x.hear(5) + ", " + x.hear(2));
    x.flip(9, 1);
    System.out.println("mended: " + x.hear(5) + ", " + x.hear(2));
    System.out.println("periods that they have: " + x.has(5, 0) + ", " + x.has(2, 0));

    x.seal(0, 7L, 1L, 2L);                // block 7 of the programme is (1, 2)
    x.open(5, 0, 7L, x.out(false), x.out(true));
    System.out.println("plain: (" + x.out(false) + ", " + x.out(true) + ")");
    try {
      x.open(2, 0, 7L, 1L, 2L);
    } catch (IllegalStateException e) {
      System.out.println("decoder 2 has no key");
    }
  }
}
