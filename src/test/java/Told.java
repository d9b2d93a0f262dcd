/** Something that is told to a yard, or asked of it. */
interface Told {
  void to(Warpyard yard);
}
