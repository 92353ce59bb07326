t
h
e
o
r
e
m
 
L
c
_
X
1
0
_
w
o
r
d
_
e
 
(
X
u
s
e
r
 
:
 
g
R
o
w
)
 
(
X
o
w
n
e
r
 
:
 
g
R
o
w
)
 
(
v
c
 
:
 
I
n
t
3
2
)
 
(
o
w
n
 
:
 
I
n
t
3
2
)
 
:
 
(
F
_
X
1
0
_
w
o
r
d
_
e
 
X
u
s
e
r
 
X
o
w
n
e
r
 
v
c
 
o
w
n
)
.
1
 
=
 
0
 
∨
 
(
F
_
X
1
0
_
w
o
r
d
_
e
 
X
u
s
e
r
 
X
o
w
n
e
r
 
v
c
 
o
w
n
)
.
1
 
=
 
5
 
:
=
 
b
y


 
 
u
n
f
o
l
d
 
F
_
X
1
0
_
w
o
r
d
_
e


 
 
d
s
i
m
p
 
o
n
l
y
 
[
g
L
e
t
]


 
 
r
e
p
e
a
t
'
 
s
p
l
i
t


 
 
a
l
l
_
g
o
a
l
s
 
s
i
m
p


t
h
e
o
r
e
m
 
L
c
_
X
1
0
_
i
d
_
e
 
(
X
i
d
e
n
t
 
:
 
g
R
o
w
)
 
(
v
b
 
:
 
I
n
t
3
2
)
 
:
 
(
F
_
X
1
0
_
i
d
_
e
 
X
i
d
e
n
t
 
v
b
)
.
1
 
=
 
0
 
∨
 
(
F
_
X
1
0
_
i
d
_
e
 
X
i
d
e
n
t
 
v
b
)
.
1
 
=
 
5
 
:
=
 
b
y


 
 
u
n
f
o
l
d
 
F
_
X
1
0
_
i
d
_
e


 
 
d
s
i
m
p
 
o
n
l
y
 
[
g
L
e
t
]


 
 
r
e
p
e
a
t
'
 
s
p
l
i
t


 
 
a
l
l
_
g
o
a
l
s
 
s
i
m
p


t
h
e
o
r
e
m
 
L
c
_
X
1
0
_
t
a
p
e
_
e
 
(
X
t
a
p
e
 
:
 
g
R
o
w
)
 
(
v
w
 
:
 
I
n
t
3
2
)
 
:
 
(
F
_
X
1
0
_
t
a
p
e
_
e
 
X
t
a
p
e
 
v
w
)
.
1
 
=
 
0
 
∨
 
(
F
_
X
1
0
_
t
a
p
e
_
e
 
X
t
a
p
e
 
v
w
)
.
1
 
=
 
5
 
:
=
 
b
y


 
 
u
n
f
o
l
d
 
F
_
X
1
0
_
t
a
p
e
_
e


 
 
d
s
i
m
p
 
o
n
l
y
 
[
g
L
e
t
]


 
 
r
e
p
e
a
t
'
 
s
p
l
i
t


 
 
a
l
l
_
g
o
a
l
s
 
s
i
m
p


t
h
e
o
r
e
m
 
L
c
_
X
1
0
_
m
a
k
e
_
e
 
(
r
v
 
:
 
N
a
t
)
 
(
g
i
v
e
n
 
:
 
I
n
t
3
2
)
 
(
p
e
r
m
 
:
 
I
n
t
3
2
)
 
(
p
l
a
i
n
 
:
 
I
n
t
3
2
)
 
(
X
u
s
e
r
 
:
 
g
R
o
w
)
 
(
X
o
w
n
e
r
 
:
 
g
R
o
w
)
 
(
X
i
d
e
n
t
 
:
 
g
R
o
w
)
 
(
X
t
a
p
e
 
:
 
g
R
o
w
)
 
(
X
s
e
c
r
e
t
 
:
 
g
R
o
w
)
 
(
X
e
0
 
:
 
g
R
o
w
)
 
(
X
e
1
 
:
 
g
R
o
w
)
 
(
b
k
s
m
 
:
 
N
a
t
 
→
 
I
n
t
3
2
)
 
(
s
t
s
m
 
:
 
N
a
t
 
→
 
I
n
t
3
2
)
 
(
m
x
s
r
 
:
 
N
a
t
 
→
 
I
n
t
3
2
)
 
(
X
t
e
x
t
 
:
 
g
R
o
w
)
 
(
X
s
u
m
 
:
 
g
R
o
w
)
 
(
X
p
a
d
 
:
 
g
R
o
w
)
 
(
X
c
o
l
 
:
 
g
R
o
w
)
 
(
v
p
 
:
 
I
n
t
3
2
)
 
:
 
(
F
_
X
1
0
_
m
a
k
e
_
e
 
r
v
 
g
i
v
e
n
 
p
e
r
m
 
p
l
a
i
n
 
X
u
s
e
r
 
X
o
w
n
e
r
 
X
i
d
e
n
t
 
X
t
a
p
e
 
X
s
e
c
r
e
t
 
X
e
0
 
X
e
1
 
b
k
s
m
 
s
t
s
m
 
m
x
s
r
 
X
t
e
x
t
 
X
s
u
m
 
X
p
a
d
 
X
c
o
l
 
v
p
)
.
1
 
=
 
0
 
∨
 
(
F
_
X
1
0
_
m
a
k
e
_
e
 
r
v
 
g
i
v
e
n
 
p
e
r
m
 
p
l
a
i
n
 
X
u
s
e
r
 
X
o
w
n
e
r
 
X
i
d
e
n
t
 
X
t
a
p
e
 
X
s
e
c
r
e
t
 
X
e
0
 
X
e
1
 
b
k
s
m
 
s
t
s
m
 
m
x
s
r
 
X
t
e
x
t
 
X
s
u
m
 
X
p
a
d
 
X
c
o
l
 
v
p
)
.
1
 
=
 
3
 
:
=
 
b
y


 
 
u
n
f
o
l
d
 
F
_
X
1
0
_
m
a
k
e
_
e


 
 
d
s
i
m
p
 
o
n
l
y
 
[
g
L
e
t
]


 
 
r
e
p
e
a
t
'
 
s
p
l
i
t


 
 
a
l
l
_
g
o
a
l
s
 
s
i
m
p


t
h
e
o
r
e
m
 
L
c
_
X
1
0
_
e
n
t
r
y
_
e
 
(
X
e
0
 
:
 
g
R
o
w
)
 
(
X
e
1
 
:
 
g
R
o
w
)
 
(
X
n
o
e
 
:
 
g
R
o
w
)
 
(
w
h
i
c
h
 
:
 
I
n
t
3
2
)
 
(
v
i
 
:
 
I
n
t
3
2
)
 
:
 
(
F
_
X
1
0
_
e
n
t
r
y
_
e
 
X
e
0
 
X
e
1
 
X
n
o
e
 
w
h
i
c
h
 
v
i
)
.
1
 
=
 
0
 
∨
 
(
F
_
X
1
0
_
e
n
t
r
y
_
e
 
X
e
0
 
X
e
1
 
X
n
o
e
 
w
h
i
c
h
 
v
i
)
.
1
 
=
 
4
 
:
=
 
b
y


 
 
u
n
f
o
l
d
 
F
_
X
1
0
_
e
n
t
r
y
_
e


 
 
d
s
i
m
p
 
o
n
l
y
 
[
g
L
e
t
]


 
 
r
e
p
e
a
t
'
 
s
p
l
i
t


 
 
a
l
l
_
g
o
a
l
s
 
s
i
m
p


t
h
e
o
r
e
m
 
L
c
_
X
1
0
_
a
l
t
e
r
_
e
 
(
X
s
e
c
r
e
t
 
:
 
g
R
o
w
)
 
(
X
e
0
 
:
 
g
R
o
w
)
 
(
X
e
1
 
:
 
g
R
o
w
)
 
(
X
n
o
e
 
:
 
g
R
o
w
)
 
(
X
c
o
l
 
:
 
g
R
o
w
)
 
(
w
h
i
c
h
 
:
 
I
n
t
3
2
)
 
(
v
i
 
:
 
I
n
t
3
2
)
 
(
v
b
 
:
 
I
n
t
3
2
)
 
:
 
(
F
_
X
1
0
_
a
l
t
e
r
_
e
 
X
s
e
c
r
e
t
 
X
e
0
 
X
e
1
 
X
n
o
e
 
X
c
o
l
 
w
h
i
c
h
 
v
i
 
v
b
)
.
1
 
=
 
0
 
∨
 
(
F
_
X
1
0
_
a
l
t
e
r
_
e
 
X
s
e
c
r
e
t
 
X
e
0
 
X
e
1
 
X
n
o
e
 
X
c
o
l
 
w
h
i
c
h
 
v
i
 
v
b
)
.
1
 
=
 
4
 
:
=
 
b
y


 
 
u
n
f
o
l
d
 
F
_
X
1
0
_
a
l
t
e
r
_
e


 
 
d
s
i
m
p
 
o
n
l
y
 
[
g
L
e
t
]


 
 
r
e
p
e
a
t
'
 
s
p
l
i
t


 
 
a
l
l
_
g
o
a
l
s
 
s
i
m
p


t
h
e
o
r
e
m
 
L
c
_
X
1
0
_
o
p
e
n
_
e
 
(
r
v
 
:
 
N
a
t
)
 
(
p
e
r
m
 
:
 
I
n
t
3
2
)
 
(
p
l
a
i
n
 
:
 
I
n
t
3
2
)
 
(
X
t
r
i
e
d
 
:
 
g
R
o
w
)
 
(
X
i
d
e
n
t
 
:
 
g
R
o
w
)
 
(
X
s
e
c
r
e
t
 
:
 
g
R
o
w
)
 
(
X
e
0
 
:
 
g
R
o
w
)
 
(
X
e
1
 
:
 
g
R
o
w
)
 
(
b
k
s
m
 
:
 
N
a
t
 
→
 
I
n
t
3
2
)
 
(
s
t
s
m
 
:
 
N
a
t
 
→
 
I
n
t
3
2
)
 
(
m
x
s
r
 
:
 
N
a
t
 
→
 
I
n
t
3
2
)
 
(
X
t
e
x
t
 
:
 
g
R
o
w
)
 
(
X
s
u
m
 
:
 
g
R
o
w
)
 
(
X
p
a
d
 
:
 
g
R
o
w
)
 
(
X
c
h
k
 
:
 
g
R
o
w
)
 
(
X
c
o
l
 
:
 
g
R
o
w
)
 
(
v
c
 
:
 
I
n
t
3
2
)
 
:
 
(
F
_
X
1
0
_
o
p
e
n
_
e
 
r
v
 
p
e
r
m
 
p
l
a
i
n
 
X
t
r
i
e
d
 
X
i
d
e
n
t
 
X
s
e
c
r
e
t
 
X
e
0
 
X
e
1
 
b
k
s
m
 
s
t
s
m
 
m
x
s
r
 
X
t
e
x
t
 
X
s
u
m
 
X
p
a
d
 
X
c
h
k
 
X
c
o
l
 
v
c
)
.
1
 
=
 
0
 
∨
 
(
F
_
X
1
0
_
o
p
e
n
_
e
 
r
v
 
p
e
r
m
 
p
l
a
i
n
 
X
t
r
i
e
d
 
X
i
d
e
n
t
 
X
s
e
c
r
e
t
 
X
e
0
 
X
e
1
 
b
k
s
m
 
s
t
s
m
 
m
x
s
r
 
X
t
e
x
t
 
X
s
u
m
 
X
p
a
d
 
X
c
h
k
 
X
c
o
l
 
v
c
)
.
1
 
=
 
2
 
∨
 
(
F
_
X
1
0
_
o
p
e
n
_
e
 
r
v
 
p
e
r
m
 
p
l
a
i
n
 
X
t
r
i
e
d
 
X
i
d
e
n
t
 
X
s
e
c
r
e
t
 
X
e
0
 
X
e
1
 
b
k
s
m
 
s
t
s
m
 
m
x
s
r
 
X
t
e
x
t
 
X
s
u
m
 
X
p
a
d
 
X
c
h
k
 
X
c
o
l
 
v
c
)
.
1
 
=
 
3
 
∨
 
(
F
_
X
1
0
_
o
p
e
n
_
e
 
r
v
 
p
e
r
m
 
p
l
a
i
n
 
X
t
r
i
e
d
 
X
i
d
e
n
t
 
X
s
e
c
r
e
t
 
X
e
0
 
X
e
1
 
b
k
s
m
 
s
t
s
m
 
m
x
s
r
 
X
t
e
x
t
 
X
s
u
m
 
X
p
a
d
 
X
c
h
k
 
X
c
o
l
 
v
c
)
.
1
 
=
 
5
 
:
=
 
b
y


 
 
u
n
f
o
l
d
 
F
_
X
1
0
_
o
p
e
n
_
e


 
 
d
s
i
m
p
 
o
n
l
y
 
[
g
L
e
t
]


 
 
r
e
p
e
a
t
'
 
s
p
l
i
t


 
 
a
l
l
_
g
o
a
l
s
 
s
i
m
p


t
h
e
o
r
e
m
 
L
c
_
X
1
0
_
k
e
y
_
e
 
(
f
i
l
t
 
:
 
I
n
t
3
2
)
 
(
X
s
e
c
r
e
t
 
:
 
g
R
o
w
)
 
(
b
k
s
m
 
:
 
N
a
t
 
→
 
I
n
t
3
2
)
 
(
s
t
s
m
 
:
 
N
a
t
 
→
 
I
n
t
3
2
)
 
(
X
t
e
x
t
 
:
 
g
R
o
w
)
 
(
X
a
n
s
 
:
 
g
R
o
w
)
 
(
n
u
m
b
e
r
 
:
 
I
n
t
3
2
)
 
(
g
e
n
e
r
a
t
i
o
n
 
:
 
I
n
t
3
2
)
 
:
 
(
F
_
X
1
0
_
k
e
y
_
e
 
f
i
l
t
 
X
s
e
c
r
e
t
 
b
k
s
m
 
s
t
s
m
 
X
t
e
x
t
 
X
a
n
s
 
n
u
m
b
e
r
 
g
e
n
e
r
a
t
i
o
n
)
.
1
 
=
 
0
 
∨
 
(
F
_
X
1
0
_
k
e
y
_
e
 
f
i
l
t
 
X
s
e
c
r
e
t
 
b
k
s
m
 
s
t
s
m
 
X
t
e
x
t
 
X
a
n
s
 
n
u
m
b
e
r
 
g
e
n
e
r
a
t
i
o
n
)
.
1
 
=
 
3
 
:
=
 
b
y


 
 
u
n
f
o
l
d
 
F
_
X
1
0
_
k
e
y
_
e


 
 
d
s
i
m
p
 
o
n
l
y
 
[
g
L
e
t
]


 
 
r
e
p
e
a
t
'
 
s
p
l
i
t


 
 
a
l
l
_
g
o
a
l
s
 
s
i
m
p


t
h
e
o
r
e
m
 
L
c
_
X
1
0
_
f
i
l
t
e
r
_
e
 
(
r
v
 
:
 
N
a
t
)
 
(
f
i
l
t
 
:
 
I
n
t
3
2
)
 
(
k
i
n
d
 
:
 
I
n
t
3
2
)
 
:
 
(
F
_
X
1
0
_
f
i
l
t
e
r
_
e
 
r
v
 
f
i
l
t
 
k
i
n
d
)
.
1
 
=
 
0
 
∨
 
(
F
_
X
1
0
_
f
i
l
t
e
r
_
e
 
r
v
 
f
i
l
t
 
k
i
n
d
)
.
1
 
=
 
2
 
:
=
 
b
y


 
 
u
n
f
o
l
d
 
F
_
X
1
0
_
f
i
l
t
e
r
_
e


 
 
d
s
i
m
p
 
o
n
l
y
 
[
g
L
e
t
]


 
 
r
e
p
e
a
t
'
 
s
p
l
i
t


 
 
a
l
l
_
g
o
a
l
s
 
s
i
m
p


t
h
e
o
r
e
m
 
L
c
_
X
1
0
_
a
p
p
l
y
_
e
 
(
c
f
o
r
 
:
 
I
n
t
3
2
)
 
(
c
b
a
c
k
 
:
 
I
n
t
3
2
)
 
(
X
s
e
c
r
e
t
 
:
 
g
R
o
w
)
 
(
X
c
o
l
 
:
 
g
R
o
w
)
 
(
n
u
m
b
e
r
 
:
 
I
n
t
3
2
)
 
(
b
a
c
k
 
:
 
I
n
t
3
2
)
 
(
v
b
 
:
 
I
n
t
3
2
)
 
:
 
(
F
_
X
1
0
_
a
p
p
l
y
_
e
 
c
f
o
r
 
c
b
a
c
k
 
X
s
e
c
r
e
t
 
X
c
o
l
 
n
u
m
b
e
r
 
b
a
c
k
 
v
b
)
.
1
 
=
 
0
 
∨
 
(
F
_
X
1
0
_
a
p
p
l
y
_
e
 
c
f
o
r
 
c
b
a
c
k
 
X
s
e
c
r
e
t
 
X
c
o
l
 
n
u
m
b
e
r
 
b
a
c
k
 
v
b
)
.
1
 
=
 
3
 
∨
 
(
F
_
X
1
0
_
a
p
p
l
y
_
e
 
c
f
o
r
 
c
b
a
c
k
 
X
s
e
c
r
e
t
 
X
c
o
l
 
n
u
m
b
e
r
 
b
a
c
k
 
v
b
)
.
1
 
=
 
5
 
:
=
 
b
y


 
 
u
n
f
o
l
d
 
F
_
X
1
0
_
a
p
p
l
y
_
e


 
 
d
s
i
m
p
 
o
n
l
y
 
[
g
L
e
t
]


 
 
r
e
p
e
a
t
'
 
s
p
l
i
t


 
 
a
l
l
_
g
o
a
l
s
 
s
i
m
p


t
h
e
o
r
e
m
 
L
c
_
X
1
0
_
o
u
t
_
e
 
(
X
a
n
s
 
:
 
g
R
o
w
)
 
(
v
i
 
:
 
I
n
t
3
2
)
 
:
 
(
F
_
X
1
0
_
o
u
t
_
e
 
X
a
n
s
 
v
i
)
.
1
 
=
 
0
 
∨
 
(
F
_
X
1
0
_
o
u
t
_
e
 
X
a
n
s
 
v
i
)
.
1
 
=
 
1
 
:
=
 
b
y


 
 
u
n
f
o
l
d
 
F
_
X
1
0
_
o
u
t
_
e


 
 
d
s
i
m
p
 
o
n
l
y
 
[
g
L
e
t
]


 
 
r
e
p
e
a
t
'
 
s
p
l
i
t


 
 
a
l
l
_
g
o
a
l
s
 
s
i
m
p


t
h
e
o
r
e
m
 
L
c
_
X
1
0
_
d
i
g
e
s
t
_
e
 
(
b
k
s
m
 
:
 
N
a
t
 
→
 
I
n
t
3
2
)
 
(
s
t
s
m
 
:
 
N
a
t
 
→
 
I
n
t
3
2
)
 
(
w
d
g
r
 
:
 
N
a
t
 
→
 
I
n
t
3
2
)
 
(
s
t
g
r
 
:
 
N
a
t
 
→
 
I
n
t
3
2
)
 
(
X
c
o
l
 
:
 
g
R
o
w
)
 
(
X
a
n
s
 
:
 
g
R
o
w
)
 
(
k
i
n
d
 
:
 
I
n
t
3
2
)
 
:
 
(
F
_
X
1
0
_
d
i
g
e
s
t
_
e
 
b
k
s
m
 
s
t
s
m
 
w
d
g
r
 
s
t
g
r
 
X
c
o
l
 
X
a
n
s
 
k
i
n
d
)
.
1
 
=
 
0
 
∨
 
(
F
_
X
1
0
_
d
i
g
e
s
t
_
e
 
b
k
s
m
 
s
t
s
m
 
w
d
g
r
 
s
t
g
r
 
X
c
o
l
 
X
a
n
s
 
k
i
n
d
)
.
1
 
=
 
2
 
:
=
 
b
y


 
 
u
n
f
o
l
d
 
F
_
X
1
0
_
d
i
g
e
s
t
_
e


 
 
d
s
i
m
p
 
o
n
l
y
 
[
g
L
e
t
]


 
 
r
e
p
e
a
t
'
 
s
p
l
i
t


 
 
a
l
l
_
g
o
a
l
s
 
s
i
m
p


t
h
e
o
r
e
m
 
L
c
_
X
1
0
_
t
o
l
d
_
e
 
(
g
i
v
e
n
 
:
 
I
n
t
3
2
)
 
(
p
e
r
m
 
:
 
I
n
t
3
2
)
 
(
X
t
a
p
e
 
:
 
g
R
o
w
)
 
(
X
c
o
l
 
:
 
g
R
o
w
)
 
(
X
a
n
s
 
:
 
g
R
o
w
)
 
(
v
i
 
:
 
I
n
t
3
2
)
 
:
 
(
F
_
X
1
0
_
t
o
l
d
_
e
 
g
i
v
e
n
 
p
e
r
m
 
X
t
a
p
e
 
X
c
o
l
 
X
a
n
s
 
v
i
)
.
1
 
=
 
0
 
∨
 
(
F
_
X
1
0
_
t
o
l
d
_
e
 
g
i
v
e
n
 
p
e
r
m
 
X
t
a
p
e
 
X
c
o
l
 
X
a
n
s
 
v
i
)
.
1
 
=
 
4
 
:
=
 
b
y


 
 
u
n
f
o
l
d
 
F
_
X
1
0
_
t
o
l
d
_
e


 
 
d
s
i
m
p
 
o
n
l
y
 
[
g
L
e
t
]


 
 
r
e
p
e
a
t
'
 
s
p
l
i
t


 
 
a
l
l
_
g
o
a
l
s
 
s
i
m
p


t
h
e
o
r
e
m
 
L
c
_
X
1
0
_
w
o
r
d
_
l
 
(
X
u
s
e
r
 
:
 
g
R
o
w
)
 
(
X
o
w
n
e
r
 
:
 
g
R
o
w
)
 
(
v
c
 
:
 
I
n
t
3
2
)
 
(
o
w
n
 
:
 
I
n
t
3
2
)
 
:
 
(
F
_
X
1
0
_
w
o
r
d
_
l
 
X
u
s
e
r
 
X
o
w
n
e
r
 
v
c
 
o
w
n
)
.
1
 
=
 
0
 
∨
 
(
F
_
X
1
0
_
w
o
r
d
_
l
 
X
u
s
e
r
 
X
o
w
n
e
r
 
v
c
 
o
w
n
)
.
1
 
=
 
5
 
:
=
 
b
y


 
 
u
n
f
o
l
d
 
F
_
X
1
0
_
w
o
r
d
_
l


 
 
d
s
i
m
p
 
o
n
l
y
 
[
g
L
e
t
]


 
 
r
e
p
e
a
t
'
 
s
p
l
i
t


 
 
a
l
l
_
g
o
a
l
s
 
s
i
m
p


t
h
e
o
r
e
m
 
L
c
_
X
1
0
_
i
d
_
l
 
(
X
i
d
e
n
t
 
:
 
g
R
o
w
)
 
(
v
b
 
:
 
I
n
t
3
2
)
 
:
 
(
F
_
X
1
0
_
i
d
_
l
 
X
i
d
e
n
t
 
v
b
)
.
1
 
=
 
0
 
∨
 
(
F
_
X
1
0
_
i
d
_
l
 
X
i
d
e
n
t
 
v
b
)
.
1
 
=
 
5
 
:
=
 
b
y


 
 
u
n
f
o
l
d
 
F
_
X
1
0
_
i
d
_
l


 
 
d
s
i
m
p
 
o
n
l
y
 
[
g
L
e
t
]


 
 
r
e
p
e
a
t
'
 
s
p
l
i
t


 
 
a
l
l
_
g
o
a
l
s
 
s
i
m
p


t
h
e
o
r
e
m
 
L
c
_
X
1
0
_
t
a
p
e
_
l
 
(
X
t
a
p
e
 
:
 
g
R
o
w
)
 
(
v
w
 
:
 
I
n
t
3
2
)
 
:
 
(
F
_
X
1
0
_
t
a
p
e
_
l
 
X
t
a
p
e
 
v
w
)
.
1
 
=
 
0
 
∨
 
(
F
_
X
1
0
_
t
a
p
e
_
l
 
X
t
a
p
e
 
v
w
)
.
1
 
=
 
5
 
:
=
 
b
y


 
 
u
n
f
o
l
d
 
F
_
X
1
0
_
t
a
p
e
_
l


 
 
d
s
i
m
p
 
o
n
l
y
 
[
g
L
e
t
]


 
 
r
e
p
e
a
t
'
 
s
p
l
i
t


 
 
a
l
l
_
g
o
a
l
s
 
s
i
m
p


t
h
e
o
r
e
m
 
L
c
_
X
1
0
_
m
a
k
e
_
l
 
(
g
i
v
e
n
 
:
 
I
n
t
3
2
)
 
(
p
e
r
m
 
:
 
I
n
t
3
2
)
 
(
p
l
a
i
n
 
:
 
I
n
t
3
2
)
 
(
X
u
s
e
r
 
:
 
g
R
o
w
)
 
(
X
o
w
n
e
r
 
:
 
g
R
o
w
)
 
(
X
t
a
p
e
 
:
 
g
R
o
w
)
 
(
X
s
e
c
r
e
t
 
:
 
g
R
o
w
)
 
(
X
e
0
 
:
 
g
R
o
w
)
 
(
X
e
1
 
:
 
g
R
o
w
)
 
(
X
e
2
 
:
 
g
R
o
w
)
 
(
X
e
3
 
:
 
g
R
o
w
)
 
(
X
e
4
 
:
 
g
R
o
w
)
 
(
w
d
g
r
 
:
 
N
a
t
 
→
 
I
n
t
3
2
)
 
(
s
t
g
r
 
:
 
N
a
t
 
→
 
I
n
t
3
2
)
 
(
r
d
b
l
 
:
 
I
n
t
3
2
)
 
(
k
y
b
l
 
:
 
N
a
t
 
→
 
I
n
t
3
2
)
 
(
c
l
b
l
 
:
 
N
a
t
 
→
 
I
n
t
3
2
)
 
(
m
v
b
l
 
:
 
N
a
t
 
→
 
I
n
t
3
2
)
 
(
l
a
b
l
 
:
 
N
a
t
 
→
 
I
n
t
3
2
)
 
(
X
t
e
x
t
 
:
 
g
R
o
w
)
 
(
X
s
u
m
 
:
 
g
R
o
w
)
 
(
X
c
h
 
:
 
g
R
o
w
)
 
(
X
c
o
l
 
:
 
g
R
o
w
)
 
(
v
p
 
:
 
I
n
t
3
2
)
 
:
 
(
F
_
X
1
0
_
m
a
k
e
_
l
 
g
i
v
e
n
 
p
e
r
m
 
p
l
a
i
n
 
X
u
s
e
r
 
X
o
w
n
e
r
 
X
t
a
p
e
 
X
s
e
c
r
e
t
 
X
e
0
 
X
e
1
 
X
e
2
 
X
e
3
 
X
e
4
 
w
d
g
r
 
s
t
g
r
 
r
d
b
l
 
k
y
b
l
 
c
l
b
l
 
m
v
b
l
 
l
a
b
l
 
X
t
e
x
t
 
X
s
u
m
 
X
c
h
 
X
c
o
l
 
v
p
)
.
1
 
=
 
0
 
∨
 
(
F
_
X
1
0
_
m
a
k
e
_
l
 
g
i
v
e
n
 
p
e
r
m
 
p
l
a
i
n
 
X
u
s
e
r
 
X
o
w
n
e
r
 
X
t
a
p
e
 
X
s
e
c
r
e
t
 
X
e
0
 
X
e
1
 
X
e
2
 
X
e
3
 
X
e
4
 
w
d
g
r
 
s
t
g
r
 
r
d
b
l
 
k
y
b
l
 
c
l
b
l
 
m
v
b
l
 
l
a
b
l
 
X
t
e
x
t
 
X
s
u
m
 
X
c
h
 
X
c
o
l
 
v
p
)
.
1
 
=
 
3
 
:
=
 
b
y


 
 
u
n
f
o
l
d
 
F
_
X
1
0
_
m
a
k
e
_
l


 
 
d
s
i
m
p
 
o
n
l
y
 
[
g
L
e
t
]


 
 
r
e
p
e
a
t
'
 
s
p
l
i
t


 
 
a
l
l
_
g
o
a
l
s
 
s
i
m
p


t
h
e
o
r
e
m
 
L
c
_
X
1
0
_
e
n
t
r
y
_
l
 
(
X
e
0
 
:
 
g
R
o
w
)
 
(
X
e
1
 
:
 
g
R
o
w
)
 
(
X
e
2
 
:
 
g
R
o
w
)
 
(
X
e
3
 
:
 
g
R
o
w
)
 
(
X
e
4
 
:
 
g
R
o
w
)
 
(
X
n
o
e
 
:
 
g
R
o
w
)
 
(
w
h
i
c
h
 
:
 
I
n
t
3
2
)
 
(
v
i
 
:
 
I
n
t
3
2
)
 
:
 
(
F
_
X
1
0
_
e
n
t
r
y
_
l
 
X
e
0
 
X
e
1
 
X
e
2
 
X
e
3
 
X
e
4
 
X
n
o
e
 
w
h
i
c
h
 
v
i
)
.
1
 
=
 
0
 
∨
 
(
F
_
X
1
0
_
e
n
t
r
y
_
l
 
X
e
0
 
X
e
1
 
X
e
2
 
X
e
3
 
X
e
4
 
X
n
o
e
 
w
h
i
c
h
 
v
i
)
.
1
 
=
 
4
 
:
=
 
b
y


 
 
u
n
f
o
l
d
 
F
_
X
1
0
_
e
n
t
r
y
_
l


 
 
d
s
i
m
p
 
o
n
l
y
 
[
g
L
e
t
]


 
 
r
e
p
e
a
t
'
 
s
p
l
i
t


 
 
a
l
l
_
g
o
a
l
s
 
s
i
m
p


t
h
e
o
r
e
m
 
L
c
_
X
1
0
_
a
l
t
e
r
_
l
 
(
X
s
e
c
r
e
t
 
:
 
g
R
o
w
)
 
(
X
e
0
 
:
 
g
R
o
w
)
 
(
X
e
1
 
:
 
g
R
o
w
)
 
(
X
e
2
 
:
 
g
R
o
w
)
 
(
X
e
3
 
:
 
g
R
o
w
)
 
(
X
e
4
 
:
 
g
R
o
w
)
 
(
X
n
o
e
 
:
 
g
R
o
w
)
 
(
X
c
o
l
 
:
 
g
R
o
w
)
 
(
w
h
i
c
h
 
:
 
I
n
t
3
2
)
 
(
v
i
 
:
 
I
n
t
3
2
)
 
(
v
b
 
:
 
I
n
t
3
2
)
 
:
 
(
F
_
X
1
0
_
a
l
t
e
r
_
l
 
X
s
e
c
r
e
t
 
X
e
0
 
X
e
1
 
X
e
2
 
X
e
3
 
X
e
4
 
X
n
o
e
 
X
c
o
l
 
w
h
i
c
h
 
v
i
 
v
b
)
.
1
 
=
 
0
 
∨
 
(
F
_
X
1
0
_
a
l
t
e
r
_
l
 
X
s
e
c
r
e
t
 
X
e
0
 
X
e
1
 
X
e
2
 
X
e
3
 
X
e
4
 
X
n
o
e
 
X
c
o
l
 
w
h
i
c
h
 
v
i
 
v
b
)
.
1
 
=
 
4
 
:
=
 
b
y


 
 
u
n
f
o
l
d
 
F
_
X
1
0
_
a
l
t
e
r
_
l


 
 
d
s
i
m
p
 
o
n
l
y
 
[
g
L
e
t
]


 
 
r
e
p
e
a
t
'
 
s
p
l
i
t


 
 
a
l
l
_
g
o
a
l
s
 
s
i
m
p


t
h
e
o
r
e
m
 
L
c
_
X
1
0
_
o
p
e
n
_
l
 
(
X
t
r
i
e
d
 
:
 
g
R
o
w
)
 
(
X
s
e
c
r
e
t
 
:
 
g
R
o
w
)
 
(
X
e
0
 
:
 
g
R
o
w
)
 
(
X
e
1
 
:
 
g
R
o
w
)
 
(
X
e
2
 
:
 
g
R
o
w
)
 
(
X
e
3
 
:
 
g
R
o
w
)
 
(
w
d
g
r
 
:
 
N
a
t
 
→
 
I
n
t
3
2
)
 
(
s
t
g
r
 
:
 
N
a
t
 
→
 
I
n
t
3
2
)
 
(
r
d
b
l
 
:
 
I
n
t
3
2
)
 
(
k
y
b
l
 
:
 
N
a
t
 
→
 
I
n
t
3
2
)
 
(
c
l
b
l
 
:
 
N
a
t
 
→
 
I
n
t
3
2
)
 
(
m
v
b
l
 
:
 
N
a
t
 
→
 
I
n
t
3
2
)
 
(
l
a
b
l
 
:
 
N
a
t
 
→
 
I
n
t
3
2
)
 
(
X
t
e
x
t
 
:
 
g
R
o
w
)
 
(
X
s
u
m
 
:
 
g
R
o
w
)
 
(
X
c
o
l
 
:
 
g
R
o
w
)
 
(
v
c
 
:
 
I
n
t
3
2
)
 
:
 
(
F
_
X
1
0
_
o
p
e
n
_
l
 
X
t
r
i
e
d
 
X
s
e
c
r
e
t
 
X
e
0
 
X
e
1
 
X
e
2
 
X
e
3
 
w
d
g
r
 
s
t
g
r
 
r
d
b
l
 
k
y
b
l
 
c
l
b
l
 
m
v
b
l
 
l
a
b
l
 
X
t
e
x
t
 
X
s
u
m
 
X
c
o
l
 
v
c
)
.
1
 
=
 
0
 
∨
 
(
F
_
X
1
0
_
o
p
e
n
_
l
 
X
t
r
i
e
d
 
X
s
e
c
r
e
t
 
X
e
0
 
X
e
1
 
X
e
2
 
X
e
3
 
w
d
g
r
 
s
t
g
r
 
r
d
b
l
 
k
y
b
l
 
c
l
b
l
 
m
v
b
l
 
l
a
b
l
 
X
t
e
x
t
 
X
s
u
m
 
X
c
o
l
 
v
c
)
.
1
 
=
 
2
 
∨
 
(
F
_
X
1
0
_
o
p
e
n
_
l
 
X
t
r
i
e
d
 
X
s
e
c
r
e
t
 
X
e
0
 
X
e
1
 
X
e
2
 
X
e
3
 
w
d
g
r
 
s
t
g
r
 
r
d
b
l
 
k
y
b
l
 
c
l
b
l
 
m
v
b
l
 
l
a
b
l
 
X
t
e
x
t
 
X
s
u
m
 
X
c
o
l
 
v
c
)
.
1
 
=
 
3
 
∨
 
(
F
_
X
1
0
_
o
p
e
n
_
l
 
X
t
r
i
e
d
 
X
s
e
c
r
e
t
 
X
e
0
 
X
e
1
 
X
e
2
 
X
e
3
 
w
d
g
r
 
s
t
g
r
 
r
d
b
l
 
k
y
b
l
 
c
l
b
l
 
m
v
b
l
 
l
a
b
l
 
X
t
e
x
t
 
X
s
u
m
 
X
c
o
l
 
v
c
)
.
1
 
=
 
5
 
:
=
 
b
y


 
 
u
n
f
o
l
d
 
F
_
X
1
0
_
o
p
e
n
_
l


 
 
d
s
i
m
p
 
o
n
l
y
 
[
g
L
e
t
]


 
 
r
e
p
e
a
t
'
 
s
p
l
i
t


 
 
a
l
l
_
g
o
a
l
s
 
s
i
m
p


t
h
e
o
r
e
m
 
L
c
_
X
1
0
_
k
e
y
_
l
 
(
f
i
l
t
 
:
 
I
n
t
3
2
)
 
(
X
s
e
c
r
e
t
 
:
 
g
R
o
w
)
 
(
X
a
n
s
 
:
 
g
R
o
w
)
 
:
 
(
F
_
X
1
0
_
k
e
y
_
l
 
f
i
l
t
 
X
s
e
c
r
e
t
 
X
a
n
s
)
.
1
 
=
 
0
 
∨
 
(
F
_
X
1
0
_
k
e
y
_
l
 
f
i
l
t
 
X
s
e
c
r
e
t
 
X
a
n
s
)
.
1
 
=
 
3
 
:
=
 
b
y


 
 
u
n
f
o
l
d
 
F
_
X
1
0
_
k
e
y
_
l


 
 
d
s
i
m
p
 
o
n
l
y
 
[
g
L
e
t
]


 
 
r
e
p
e
a
t
'
 
s
p
l
i
t


 
 
a
l
l
_
g
o
a
l
s
 
s
i
m
p


t
h
e
o
r
e
m
 
L
c
_
X
1
0
_
f
i
l
t
e
r
_
l
 
(
f
i
l
t
 
:
 
I
n
t
3
2
)
 
(
k
i
n
d
 
:
 
I
n
t
3
2
)
 
:
 
(
F
_
X
1
0
_
f
i
l
t
e
r
_
l
 
f
i
l
t
 
k
i
n
d
)
.
1
 
=
 
0
 
∨
 
(
F
_
X
1
0
_
f
i
l
t
e
r
_
l
 
f
i
l
t
 
k
i
n
d
)
.
1
 
=
 
2
 
:
=
 
b
y


 
 
u
n
f
o
l
d
 
F
_
X
1
0
_
f
i
l
t
e
r
_
l


 
 
d
s
i
m
p
 
o
n
l
y
 
[
g
L
e
t
]


 
 
r
e
p
e
a
t
'
 
s
p
l
i
t


 
 
a
l
l
_
g
o
a
l
s
 
s
i
m
p


t
h
e
o
r
e
m
 
L
c
_
X
1
0
_
a
p
p
l
y
_
l
 
(
c
f
o
r
 
:
 
I
n
t
3
2
)
 
(
c
b
a
c
k
 
:
 
I
n
t
3
2
)
 
(
X
s
e
c
r
e
t
 
:
 
g
R
o
w
)
 
(
X
c
o
l
 
:
 
g
R
o
w
)
 
(
n
u
m
b
e
r
 
:
 
I
n
t
3
2
)
 
(
b
a
c
k
 
:
 
I
n
t
3
2
)
 
(
v
b
 
:
 
I
n
t
3
2
)
 
:
 
(
F
_
X
1
0
_
a
p
p
l
y
_
l
 
c
f
o
r
 
c
b
a
c
k
 
X
s
e
c
r
e
t
 
X
c
o
l
 
n
u
m
b
e
r
 
b
a
c
k
 
v
b
)
.
1
 
=
 
0
 
∨
 
(
F
_
X
1
0
_
a
p
p
l
y
_
l
 
c
f
o
r
 
c
b
a
c
k
 
X
s
e
c
r
e
t
 
X
c
o
l
 
n
u
m
b
e
r
 
b
a
c
k
 
v
b
)
.
1
 
=
 
3
 
∨
 
(
F
_
X
1
0
_
a
p
p
l
y
_
l
 
c
f
o
r
 
c
b
a
c
k
 
X
s
e
c
r
e
t
 
X
c
o
l
 
n
u
m
b
e
r
 
b
a
c
k
 
v
b
)
.
1
 
=
 
5
 
:
=
 
b
y


 
 
u
n
f
o
l
d
 
F
_
X
1
0
_
a
p
p
l
y
_
l


 
 
d
s
i
m
p
 
o
n
l
y
 
[
g
L
e
t
]


 
 
r
e
p
e
a
t
'
 
s
p
l
i
t


 
 
a
l
l
_
g
o
a
l
s
 
s
i
m
p


t
h
e
o
r
e
m
 
L
c
_
X
1
0
_
o
u
t
_
l
 
(
X
a
n
s
 
:
 
g
R
o
w
)
 
(
v
i
 
:
 
I
n
t
3
2
)
 
:
 
(
F
_
X
1
0
_
o
u
t
_
l
 
X
a
n
s
 
v
i
)
.
1
 
=
 
0
 
∨
 
(
F
_
X
1
0
_
o
u
t
_
l
 
X
a
n
s
 
v
i
)
.
1
 
=
 
1
 
:
=
 
b
y


 
 
u
n
f
o
l
d
 
F
_
X
1
0
_
o
u
t
_
l


 
 
d
s
i
m
p
 
o
n
l
y
 
[
g
L
e
t
]


 
 
r
e
p
e
a
t
'
 
s
p
l
i
t


 
 
a
l
l
_
g
o
a
l
s
 
s
i
m
p


t
h
e
o
r
e
m
 
L
c
_
X
1
0
_
d
i
g
e
s
t
_
l
 
(
b
k
s
m
 
:
 
N
a
t
 
→
 
I
n
t
3
2
)
 
(
s
t
s
m
 
:
 
N
a
t
 
→
 
I
n
t
3
2
)
 
(
w
d
g
r
 
:
 
N
a
t
 
→
 
I
n
t
3
2
)
 
(
s
t
g
r
 
:
 
N
a
t
 
→
 
I
n
t
3
2
)
 
(
X
c
o
l
 
:
 
g
R
o
w
)
 
(
X
a
n
s
 
:
 
g
R
o
w
)
 
(
k
i
n
d
 
:
 
I
n
t
3
2
)
 
:
 
(
F
_
X
1
0
_
d
i
g
e
s
t
_
l
 
b
k
s
m
 
s
t
s
m
 
w
d
g
r
 
s
t
g
r
 
X
c
o
l
 
X
a
n
s
 
k
i
n
d
)
.
1
 
=
 
0
 
∨
 
(
F
_
X
1
0
_
d
i
g
e
s
t
_
l
 
b
k
s
m
 
s
t
s
m
 
w
d
g
r
 
s
t
g
r
 
X
c
o
l
 
X
a
n
s
 
k
i
n
d
)
.
1
 
=
 
2
 
:
=
 
b
y


 
 
u
n
f
o
l
d
 
F
_
X
1
0
_
d
i
g
e
s
t
_
l


 
 
d
s
i
m
p
 
o
n
l
y
 
[
g
L
e
t
]


 
 
r
e
p
e
a
t
'
 
s
p
l
i
t


 
 
a
l
l
_
g
o
a
l
s
 
s
i
m
p


t
h
e
o
r
e
m
 
L
c
_
X
1
0
_
t
o
l
d
_
l
 
(
g
i
v
e
n
 
:
 
I
n
t
3
2
)
 
(
p
e
r
m
 
:
 
I
n
t
3
2
)
 
(
X
t
a
p
e
 
:
 
g
R
o
w
)
 
(
X
s
e
c
r
e
t
 
:
 
g
R
o
w
)
 
(
X
e
4
 
:
 
g
R
o
w
)
 
(
r
d
b
l
 
:
 
I
n
t
3
2
)
 
(
k
y
b
l
 
:
 
N
a
t
 
→
 
I
n
t
3
2
)
 
(
c
l
b
l
 
:
 
N
a
t
 
→
 
I
n
t
3
2
)
 
(
m
v
b
l
 
:
 
N
a
t
 
→
 
I
n
t
3
2
)
 
(
l
a
b
l
 
:
 
N
a
t
 
→
 
I
n
t
3
2
)
 
(
X
t
e
x
t
 
:
 
g
R
o
w
)
 
(
X
c
o
l
 
:
 
g
R
o
w
)
 
(
X
a
n
s
 
:
 
g
R
o
w
)
 
(
v
i
 
:
 
I
n
t
3
2
)
 
:
 
(
F
_
X
1
0
_
t
o
l
d
_
l
 
g
i
v
e
n
 
p
e
r
m
 
X
t
a
p
e
 
X
s
e
c
r
e
t
 
X
e
4
 
r
d
b
l
 
k
y
b
l
 
c
l
b
l
 
m
v
b
l
 
l
a
b
l
 
X
t
e
x
t
 
X
c
o
l
 
X
a
n
s
 
v
i
)
.
1
 
=
 
0
 
∨
 
(
F
_
X
1
0
_
t
o
l
d
_
l
 
g
i
v
e
n
 
p
e
r
m
 
X
t
a
p
e
 
X
s
e
c
r
e
t
 
X
e
4
 
r
d
b
l
 
k
y
b
l
 
c
l
b
l
 
m
v
b
l
 
l
a
b
l
 
X
t
e
x
t
 
X
c
o
l
 
X
a
n
s
 
v
i
)
.
1
 
=
 
4
 
:
=
 
b
y


 
 
u
n
f
o
l
d
 
F
_
X
1
0
_
t
o
l
d
_
l


 
 
d
s
i
m
p
 
o
n
l
y
 
[
g
L
e
t
]


 
 
r
e
p
e
a
t
'
 
s
p
l
i
t


 
 
a
l
l
_
g
o
a
l
s
 
s
i
m
p


d
e
f
 
F
_
L
_
w
o
r
d
_
e
 
(
X
u
s
e
r
 
:
 
g
R
o
w
)
 
(
X
o
w
n
e
r
 
:
 
g
R
o
w
)
 
(
g
g
 
:
 
N
a
t
 
→
 
I
n
t
6
4
)
 
(
v
c
 
:
 
I
n
t
3
2
)
 
(
o
w
n
 
:
 
I
n
t
3
2
)
 
:
 
I
n
t
3
2
 
×
 
(
g
R
o
w
 
×
 
g
R
o
w
 
×
 
(
N
a
t
 
→
 
I
n
t
6
4
)
)
 
:
=


 
 
g
L
e
t
 
(
F
_
X
1
0
_
w
o
r
d
_
e
 
X
u
s
e
r
 
X
o
w
n
e
r
 
v
c
 
o
w
n
)
 
f
u
n
 
t
_
2
5
 
=
>


 
 
i
f
 
t
_
2
5
.
1
 
=
 
0
 
t
h
e
n


 
 
 
 
(
0
,
 
(
t
_
2
5
.
2
.
2
.
1
,
 
t
_
2
5
.
2
.
2
.
2
,
 
(
v
p
_
u
p
d
L
 
g
g
 
(
0
 
:
 
I
n
t
3
2
)
.
t
o
N
a
t
C
l
a
m
p
N
e
g
 
(
t
_
2
5
.
2
.
1
.
t
o
I
n
t
6
4
)
)
)
)


 
 
e
l
s
e


 
 
 
 
(
1
,
 
(
X
u
s
e
r
,
 
X
o
w
n
e
r
,
 
g
g
)
)


d
e
f
 
F
_
L
_
i
d
_
e
 
(
X
i
d
e
n
t
 
:
 
g
R
o
w
)
 
(
v
b
 
:
 
I
n
t
3
2
)
 
:
 
I
n
t
3
2
 
×
 
(
g
R
o
w
)
 
:
=


 
 
g
L
e
t
 
(
F
_
X
1
0
_
i
d
_
e
 
X
i
d
e
n
t
 
v
b
)
 
f
u
n
 
t
_
2
3
 
=
>


 
 
i
f
 
t
_
2
3
.
1
 
=
 
0
 
t
h
e
n


 
 
 
 
(
0
,
 
t
_
2
3
.
2
)


 
 
e
l
s
e


 
 
 
 
(
1
,
 
X
i
d
e
n
t
)


d
e
f
 
F
_
L
_
t
a
p
e
_
e
 
(
X
t
a
p
e
 
:
 
g
R
o
w
)
 
(
g
g
 
:
 
N
a
t
 
→
 
I
n
t
6
4
)
 
(
v
w
 
:
 
I
n
t
3
2
)
 
:
 
I
n
t
3
2
 
×
 
(
g
R
o
w
 
×
 
(
N
a
t
 
→
 
I
n
t
6
4
)
)
 
:
=


 
 
g
L
e
t
 
(
F
_
X
1
0
_
t
a
p
e
_
e
 
X
t
a
p
e
 
v
w
)
 
f
u
n
 
t
_
2
5
 
=
>


 
 
i
f
 
t
_
2
5
.
1
 
=
 
0
 
t
h
e
n


 
 
 
 
(
0
,
 
(
t
_
2
5
.
2
.
2
,
 
(
v
p
_
u
p
d
L
 
g
g
 
(
0
 
:
 
I
n
t
3
2
)
.
t
o
N
a
t
C
l
a
m
p
N
e
g
 
(
t
_
2
5
.
2
.
1
.
t
o
I
n
t
6
4
)
)
)
)


 
 
e
l
s
e


 
 
 
 
(
1
,
 
(
X
t
a
p
e
,
 
g
g
)
)


d
e
f
 
F
_
L
_
m
a
k
e
_
e
 
(
r
v
 
:
 
N
a
t
)
 
(
g
i
v
e
n
 
:
 
I
n
t
3
2
)
 
(
p
e
r
m
 
:
 
I
n
t
3
2
)
 
(
p
l
a
i
n
 
:
 
I
n
t
3
2
)
 
(
X
u
s
e
r
 
:
 
g
R
o
w
)
 
(
X
o
w
n
e
r
 
:
 
g
R
o
w
)
 
(
X
i
d
e
n
t
 
:
 
g
R
o
w
)
 
(
X
t
a
p
e
 
:
 
g
R
o
w
)
 
(
X
s
e
c
r
e
t
 
:
 
g
R
o
w
)
 
(
X
e
0
 
:
 
g
R
o
w
)
 
(
X
e
1
 
:
 
g
R
o
w
)
 
(
b
k
s
m
 
:
 
N
a
t
 
→
 
I
n
t
3
2
)
 
(
s
t
s
m
 
:
 
N
a
t
 
→
 
I
n
t
3
2
)
 
(
m
x
s
r
 
:
 
N
a
t
 
→
 
I
n
t
3
2
)
 
(
X
t
e
x
t
 
:
 
g
R
o
w
)
 
(
X
s
u
m
 
:
 
g
R
o
w
)
 
(
X
p
a
d
 
:
 
g
R
o
w
)
 
(
X
c
o
l
 
:
 
g
R
o
w
)
 
(
g
g
 
:
 
N
a
t
 
→
 
I
n
t
6
4
)
 
(
v
p
 
:
 
I
n
t
3
2
)
 
:
 
I
n
t
3
2
 
×
 
(
I
n
t
3
2
 
×
 
g
R
o
w
 
×
 
g
R
o
w
 
×
 
g
R
o
w
 
×
 
(
N
a
t
 
→
 
I
n
t
3
2
)
 
×
 
(
N
a
t
 
→
 
I
n
t
3
2
)
 
×
 
(
N
a
t
 
→
 
I
n
t
3
2
)
 
×
 
g
R
o
w
 
×
 
g
R
o
w
 
×
 
g
R
o
w
 
×
 
g
R
o
w
 
×
 
(
N
a
t
 
→
 
I
n
t
6
4
)
)
 
:
=


 
 
g
L
e
t
 
(
F
_
X
1
0
_
m
a
k
e
_
e
 
r
v
 
g
i
v
e
n
 
p
e
r
m
 
p
l
a
i
n
 
X
u
s
e
r
 
X
o
w
n
e
r
 
X
i
d
e
n
t
 
X
t
a
p
e
 
X
s
e
c
r
e
t
 
X
e
0
 
X
e
1
 
b
k
s
m
 
s
t
s
m
 
m
x
s
r
 
X
t
e
x
t
 
X
s
u
m
 
X
p
a
d
 
X
c
o
l
 
v
p
)
 
f
u
n
 
t
_
2
5
 
=
>


 
 
i
f
 
t
_
2
5
.
1
 
=
 
0
 
t
h
e
n


 
 
 
 
(
0
,
 
(
t
_
2
5
.
2
.
2
.
1
,
 
(
t
_
2
5
.
2
.
2
.
2
.
1
.
1
,
 
X
s
e
c
r
e
t
.
2
)
,
 
t
_
2
5
.
2
.
2
.
2
.
2
.
1
,
 
t
_
2
5
.
2
.
2
.
2
.
2
.
2
.
1
,
 
t
_
2
5
.
2
.
2
.
2
.
2
.
2
.
2
.
1
,
 
t
_
2
5
.
2
.
2
.
2
.
2
.
2
.
2
.
2
.
1
,
 
t
_
2
5
.
2
.
2
.
2
.
2
.
2
.
2
.
2
.
2
.
1
,
 
t
_
2
5
.
2
.
2
.
2
.
2
.
2
.
2
.
2
.
2
.
2
.
1
,
 
t
_
2
5
.
2
.
2
.
2
.
2
.
2
.
2
.
2
.
2
.
2
.
2
.
1
,
 
t
_
2
5
.
2
.
2
.
2
.
2
.
2
.
2
.
2
.
2
.
2
.
2
.
2
.
1
,
 
(
t
_
2
5
.
2
.
2
.
2
.
2
.
2
.
2
.
2
.
2
.
2
.
2
.
2
.
2
.
1
,
 
X
c
o
l
.
2
)
,
 
(
v
p
_
u
p
d
L
 
g
g
 
(
0
 
:
 
I
n
t
3
2
)
.
t
o
N
a
t
C
l
a
m
p
N
e
g
 
(
t
_
2
5
.
2
.
1
.
t
o
I
n
t
6
4
)
)
)
)


 
 
e
l
s
e


 
 
 
 
(
1
,
 
(
p
e
r
m
,
 
X
s
e
c
r
e
t
,
 
X
e
0
,
 
X
e
1
,
 
b
k
s
m
,
 
s
t
s
m
,
 
m
x
s
r
,
 
X
t
e
x
t
,
 
X
s
u
m
,
 
X
p
a
d
,
 
X
c
o
l
,
 
g
g
)
)


d
e
f
 
F
_
L
_
e
n
t
r
y
_
e
 
(
X
e
0
 
:
 
g
R
o
w
)
 
(
X
e
1
 
:
 
g
R
o
w
)
 
(
X
n
o
e
 
:
 
g
R
o
w
)
 
(
g
g
 
:
 
N
a
t
 
→
 
I
n
t
6
4
)
 
(
w
h
i
c
h
 
:
 
I
n
t
3
2
)
 
(
v
i
 
:
 
I
n
t
3
2
)
 
:
 
I
n
t
3
2
 
×
 
(
N
a
t
 
→
 
I
n
t
6
4
)
 
:
=


 
 
g
L
e
t
 
(
F
_
X
1
0
_
e
n
t
r
y
_
e
 
X
e
0
 
X
e
1
 
X
n
o
e
 
w
h
i
c
h
 
v
i
)
 
f
u
n
 
t
_
2
5
 
=
>


 
 
i
f
 
t
_
2
5
.
1
 
=
 
0
 
t
h
e
n


 
 
 
 
(
0
,
 
(
v
p
_
u
p
d
L
 
g
g
 
(
0
 
:
 
I
n
t
3
2
)
.
t
o
N
a
t
C
l
a
m
p
N
e
g
 
(
t
_
2
5
.
2
.
t
o
I
n
t
6
4
)
)
)


 
 
e
l
s
e


 
 
 
 
(
1
,
 
g
g
)


d
e
f
 
F
_
L
_
a
l
t
e
r
_
e
 
(
X
s
e
c
r
e
t
 
:
 
g
R
o
w
)
 
(
X
e
0
 
:
 
g
R
o
w
)
 
(
X
e
1
 
:
 
g
R
o
w
)
 
(
X
n
o
e
 
:
 
g
R
o
w
)
 
(
X
c
o
l
 
:
 
g
R
o
w
)
 
(
w
h
i
c
h
 
:
 
I
n
t
3
2
)
 
(
v
i
 
:
 
I
n
t
3
2
)
 
(
v
b
 
:
 
I
n
t
3
2
)
 
:
 
I
n
t
3
2
 
×
 
(
g
R
o
w
 
×
 
g
R
o
w
 
×
 
g
R
o
w
 
×
 
g
R
o
w
 
×
 
g
R
o
w
)
 
:
=


 
 
g
L
e
t
 
(
F
_
X
1
0
_
a
l
t
e
r
_
e
 
X
s
e
c
r
e
t
 
X
e
0
 
X
e
1
 
X
n
o
e
 
X
c
o
l
 
w
h
i
c
h
 
v
i
 
v
b
)
 
f
u
n
 
t
_
2
3
 
=
>


 
 
i
f
 
t
_
2
3
.
1
 
=
 
0
 
t
h
e
n


 
 
 
 
(
0
,
 
(
(
t
_
2
3
.
2
.
1
.
1
,
 
X
s
e
c
r
e
t
.
2
)
,
 
t
_
2
3
.
2
.
2
.
1
,
 
t
_
2
3
.
2
.
2
.
2
.
1
,
 
t
_
2
3
.
2
.
2
.
2
.
2
.
1
,
 
(
t
_
2
3
.
2
.
2
.
2
.
2
.
2
.
1
,
 
X
c
o
l
.
2
)
)
)


 
 
e
l
s
e


 
 
 
 
(
1
,
 
(
X
s
e
c
r
e
t
,
 
X
e
0
,
 
X
e
1
,
 
X
n
o
e
,
 
X
c
o
l
)
)


d
e
f
 
F
_
L
_
o
p
e
n
_
e
 
(
r
v
 
:
 
N
a
t
)
 
(
p
e
r
m
 
:
 
I
n
t
3
2
)
 
(
p
l
a
i
n
 
:
 
I
n
t
3
2
)
 
(
X
t
r
i
e
d
 
:
 
g
R
o
w
)
 
(
X
i
d
e
n
t
 
:
 
g
R
o
w
)
 
(
X
s
e
c
r
e
t
 
:
 
g
R
o
w
)
 
(
X
e
0
 
:
 
g
R
o
w
)
 
(
X
e
1
 
:
 
g
R
o
w
)
 
(
b
k
s
m
 
:
 
N
a
t
 
→
 
I
n
t
3
2
)
 
(
s
t
s
m
 
:
 
N
a
t
 
→
 
I
n
t
3
2
)
 
(
m
x
s
r
 
:
 
N
a
t
 
→
 
I
n
t
3
2
)
 
(
X
t
e
x
t
 
:
 
g
R
o
w
)
 
(
X
s
u
m
 
:
 
g
R
o
w
)
 
(
X
p
a
d
 
:
 
g
R
o
w
)
 
(
X
c
h
k
 
:
 
g
R
o
w
)
 
(
X
c
o
l
 
:
 
g
R
o
w
)
 
(
g
g
 
:
 
N
a
t
 
→
 
I
n
t
6
4
)
 
(
v
c
 
:
 
I
n
t
3
2
)
 
:
 
I
n
t
3
2
 
×
 
(
g
R
o
w
 
×
 
g
R
o
w
 
×
 
(
N
a
t
 
→
 
I
n
t
3
2
)
 
×
 
(
N
a
t
 
→
 
I
n
t
3
2
)
 
×
 
(
N
a
t
 
→
 
I
n
t
3
2
)
 
×
 
g
R
o
w
 
×
 
g
R
o
w
 
×
 
g
R
o
w
 
×
 
g
R
o
w
 
×
 
g
R
o
w
 
×
 
(
N
a
t
 
→
 
I
n
t
6
4
)
)
 
:
=


 
 
g
L
e
t
 
(
F
_
X
1
0
_
o
p
e
n
_
e
 
r
v
 
p
e
r
m
 
p
l
a
i
n
 
X
t
r
i
e
d
 
X
i
d
e
n
t
 
X
s
e
c
r
e
t
 
X
e
0
 
X
e
1
 
b
k
s
m
 
s
t
s
m
 
m
x
s
r
 
X
t
e
x
t
 
X
s
u
m
 
X
p
a
d
 
X
c
h
k
 
X
c
o
l
 
v
c
)
 
f
u
n
 
t
_
3
3
 
=
>


 
 
i
f
 
t
_
3
3
.
1
 
=
 
0
 
t
h
e
n


 
 
 
 
(
0
,
 
(
t
_
3
3
.
2
.
2
.
1
,
 
t
_
3
3
.
2
.
2
.
2
.
1
,
 
t
_
3
3
.
2
.
2
.
2
.
2
.
1
,
 
t
_
3
3
.
2
.
2
.
2
.
2
.
2
.
1
,
 
t
_
3
3
.
2
.
2
.
2
.
2
.
2
.
2
.
1
,
 
t
_
3
3
.
2
.
2
.
2
.
2
.
2
.
2
.
2
.
1
,
 
t
_
3
3
.
2
.
2
.
2
.
2
.
2
.
2
.
2
.
2
.
1
,
 
t
_
3
3
.
2
.
2
.
2
.
2
.
2
.
2
.
2
.
2
.
2
.
1
,
 
t
_
3
3
.
2
.
2
.
2
.
2
.
2
.
2
.
2
.
2
.
2
.
2
.
1
,
 
(
t
_
3
3
.
2
.
2
.
2
.
2
.
2
.
2
.
2
.
2
.
2
.
2
.
2
.
1
,
 
X
c
o
l
.
2
)
,
 
(
v
p
_
u
p
d
L
 
g
g
 
(
0
 
:
 
I
n
t
3
2
)
.
t
o
N
a
t
C
l
a
m
p
N
e
g
 
(
t
_
3
3
.
2
.
1
.
t
o
I
n
t
6
4
)
)
)
)


 
 
e
l
s
e


 
 
 
 
i
f
 
t
_
3
3
.
1
 
=
 
2
 
t
h
e
n


 
 
 
 
 
 
(
1
,
 
(
X
t
r
i
e
d
,
 
X
s
e
c
r
e
t
,
 
b
k
s
m
,
 
s
t
s
m
,
 
m
x
s
r
,
 
X
t
e
x
t
,
 
X
s
u
m
,
 
X
p
a
d
,
 
X
c
h
k
,
 
X
c
o
l
,
 
g
g
)
)


 
 
 
 
e
l
s
e


 
 
 
 
 
 
i
f
 
t
_
3
3
.
1
 
=
 
3
 
t
h
e
n


 
 
 
 
 
 
 
 
(
2
,
 
(
X
t
r
i
e
d
,
 
X
s
e
c
r
e
t
,
 
b
k
s
m
,
 
s
t
s
m
,
 
m
x
s
r
,
 
X
t
e
x
t
,
 
X
s
u
m
,
 
X
p
a
d
,
 
X
c
h
k
,
 
X
c
o
l
,
 
g
g
)
)


 
 
 
 
 
 
e
l
s
e


 
 
 
 
 
 
 
 
(
3
,
 
(
X
t
r
i
e
d
,
 
X
s
e
c
r
e
t
,
 
b
k
s
m
,
 
s
t
s
m
,
 
m
x
s
r
,
 
X
t
e
x
t
,
 
X
s
u
m
,
 
X
p
a
d
,
 
X
c
h
k
,
 
X
c
o
l
,
 
g
g
)
)


d
e
f
 
F
_
L
_
k
e
y
_
e
 
(
f
i
l
t
 
:
 
I
n
t
3
2
)
 
(
X
s
e
c
r
e
t
 
:
 
g
R
o
w
)
 
(
b
k
s
m
 
:
 
N
a
t
 
→
 
I
n
t
3
2
)
 
(
s
t
s
m
 
:
 
N
a
t
 
→
 
I
n
t
3
2
)
 
(
X
t
e
x
t
 
:
 
g
R
o
w
)
 
(
X
a
n
s
 
:
 
g
R
o
w
)
 
(
g
g
 
:
 
N
a
t
 
→
 
I
n
t
6
4
)
 
(
n
u
m
b
e
r
 
:
 
I
n
t
3
2
)
 
(
g
e
n
e
r
a
t
i
o
n
 
:
 
I
n
t
3
2
)
 
:
 
I
n
t
3
2
 
×
 
(
(
N
a
t
 
→
 
I
n
t
3
2
)
 
×
 
(
N
a
t
 
→
 
I
n
t
3
2
)
 
×
 
g
R
o
w
 
×
 
g
R
o
w
 
×
 
(
N
a
t
 
→
 
I
n
t
6
4
)
)
 
:
=


 
 
g
L
e
t
 
(
F
_
X
1
0
_
k
e
y
_
e
 
f
i
l
t
 
X
s
e
c
r
e
t
 
b
k
s
m
 
s
t
s
m
 
X
t
e
x
t
 
X
a
n
s
 
n
u
m
b
e
r
 
g
e
n
e
r
a
t
i
o
n
)
 
f
u
n
 
t
_
2
5
 
=
>


 
 
i
f
 
t
_
2
5
.
1
 
=
 
0
 
t
h
e
n


 
 
 
 
(
0
,
 
(
t
_
2
5
.
2
.
2
.
1
,
 
t
_
2
5
.
2
.
2
.
2
.
1
,
 
t
_
2
5
.
2
.
2
.
2
.
2
.
1
,
 
t
_
2
5
.
2
.
2
.
2
.
2
.
2
,
 
(
v
p
_
u
p
d
L
 
g
g
 
(
0
 
:
 
I
n
t
3
2
)
.
t
o
N
a
t
C
l
a
m
p
N
e
g
 
(
t
_
2
5
.
2
.
1
.
t
o
I
n
t
6
4
)
)
)
)


 
 
e
l
s
e


 
 
 
 
(
1
,
 
(
b
k
s
m
,
 
s
t
s
m
,
 
X
t
e
x
t
,
 
X
a
n
s
,
 
g
g
)
)


d
e
f
 
F
_
L
_
f
i
l
t
e
r
_
e
 
(
r
v
 
:
 
N
a
t
)
 
(
f
i
l
t
 
:
 
I
n
t
3
2
)
 
(
g
g
 
:
 
N
a
t
 
→
 
I
n
t
6
4
)
 
(
k
i
n
d
 
:
 
I
n
t
3
2
)
 
:
 
I
n
t
3
2
 
×
 
(
I
n
t
3
2
 
×
 
(
N
a
t
 
→
 
I
n
t
6
4
)
)
 
:
=


 
 
g
L
e
t
 
(
F
_
X
1
0
_
f
i
l
t
e
r
_
e
 
r
v
 
f
i
l
t
 
k
i
n
d
)
 
f
u
n
 
t
_
2
5
 
=
>


 
 
i
f
 
t
_
2
5
.
1
 
=
 
0
 
t
h
e
n


 
 
 
 
(
0
,
 
(
t
_
2
5
.
2
.
2
,
 
(
v
p
_
u
p
d
L
 
g
g
 
(
0
 
:
 
I
n
t
3
2
)
.
t
o
N
a
t
C
l
a
m
p
N
e
g
 
(
t
_
2
5
.
2
.
1
.
t
o
I
n
t
6
4
)
)
)
)


 
 
e
l
s
e


 
 
 
 
(
1
,
 
(
f
i
l
t
,
 
g
g
)
)


d
e
f
 
F
_
L
_
a
p
p
l
y
_
e
 
(
c
f
o
r
 
:
 
I
n
t
3
2
)
 
(
c
b
a
c
k
 
:
 
I
n
t
3
2
)
 
(
X
s
e
c
r
e
t
 
:
 
g
R
o
w
)
 
(
X
c
o
l
 
:
 
g
R
o
w
)
 
(
g
g
 
:
 
N
a
t
 
→
 
I
n
t
6
4
)
 
(
n
u
m
b
e
r
 
:
 
I
n
t
3
2
)
 
(
b
a
c
k
 
:
 
I
n
t
3
2
)
 
(
v
b
 
:
 
I
n
t
3
2
)
 
:
 
I
n
t
3
2
 
×
 
(
I
n
t
3
2
 
×
 
I
n
t
3
2
 
×
 
g
R
o
w
 
×
 
(
N
a
t
 
→
 
I
n
t
6
4
)
)
 
:
=


 
 
g
L
e
t
 
(
F
_
X
1
0
_
a
p
p
l
y
_
e
 
c
f
o
r
 
c
b
a
c
k
 
X
s
e
c
r
e
t
 
X
c
o
l
 
n
u
m
b
e
r
 
b
a
c
k
 
v
b
)
 
f
u
n
 
t
_
2
9
 
=
>


 
 
i
f
 
t
_
2
9
.
1
 
=
 
0
 
t
h
e
n


 
 
 
 
(
0
,
 
(
t
_
2
9
.
2
.
2
.
1
,
 
t
_
2
9
.
2
.
2
.
2
.
1
,
 
t
_
2
9
.
2
.
2
.
2
.
2
,
 
(
v
p
_
u
p
d
L
 
g
g
 
(
0
 
:
 
I
n
t
3
2
)
.
t
o
N
a
t
C
l
a
m
p
N
e
g
 
(
t
_
2
9
.
2
.
1
.
t
o
I
n
t
6
4
)
)
)
)


 
 
e
l
s
e


 
 
 
 
i
f
 
t
_
2
9
.
1
 
=
 
3
 
t
h
e
n


 
 
 
 
 
 
(
1
,
 
(
c
f
o
r
,
 
c
b
a
c
k
,
 
X
c
o
l
,
 
g
g
)
)


 
 
 
 
e
l
s
e


 
 
 
 
 
 
(
2
,
 
(
c
f
o
r
,
 
c
b
a
c
k
,
 
X
c
o
l
,
 
g
g
)
)


d
e
f
 
F
_
L
_
o
u
t
_
e
 
(
X
a
n
s
 
:
 
g
R
o
w
)
 
(
g
g
 
:
 
N
a
t
 
→
 
I
n
t
6
4
)
 
(
v
i
 
:
 
I
n
t
3
2
)
 
:
 
I
n
t
3
2
 
×
 
(
N
a
t
 
→
 
I
n
t
6
4
)
 
:
=


 
 
g
L
e
t
 
(
F
_
X
1
0
_
o
u
t
_
e
 
X
a
n
s
 
v
i
)
 
f
u
n
 
t
_
2
5
 
=
>


 
 
i
f
 
t
_
2
5
.
1
 
=
 
0
 
t
h
e
n


 
 
 
 
(
0
,
 
(
v
p
_
u
p
d
L
 
g
g
 
(
0
 
:
 
I
n
t
3
2
)
.
t
o
N
a
t
C
l
a
m
p
N
e
g
 
(
t
_
2
5
.
2
.
t
o
I
n
t
6
4
)
)
)


 
 
e
l
s
e


 
 
 
 
(
1
,
 
g
g
)


d
e
f
 
F
_
L
_
d
i
g
e
s
t
_
e
 
(
b
k
s
m
 
:
 
N
a
t
 
→
 
I
n
t
3
2
)
 
(
s
t
s
m
 
:
 
N
a
t
 
→
 
I
n
t
3
2
)
 
(
w
d
g
r
 
:
 
N
a
t
 
→
 
I
n
t
3
2
)
 
(
s
t
g
r
 
:
 
N
a
t
 
→
 
I
n
t
3
2
)
 
(
X
c
o
l
 
:
 
g
R
o
w
)
 
(
X
a
n
s
 
:
 
g
R
o
w
)
 
(
g
g
 
:
 
N
a
t
 
→
 
I
n
t
6
4
)
 
(
k
i
n
d
 
:
 
I
n
t
3
2
)
 
:
 
I
n
t
3
2
 
×
 
(
(
N
a
t
 
→
 
I
n
t
3
2
)
 
×
 
(
N
a
t
 
→
 
I
n
t
3
2
)
 
×
 
(
N
a
t
 
→
 
I
n
t
3
2
)
 
×
 
(
N
a
t
 
→
 
I
n
t
3
2
)
 
×
 
g
R
o
w
 
×
 
(
N
a
t
 
→
 
I
n
t
6
4
)
)
 
:
=


 
 
g
L
e
t
 
(
F
_
X
1
0
_
d
i
g
e
s
t
_
e
 
b
k
s
m
 
s
t
s
m
 
w
d
g
r
 
s
t
g
r
 
X
c
o
l
 
X
a
n
s
 
k
i
n
d
)
 
f
u
n
 
t
_
2
5
 
=
>


 
 
i
f
 
t
_
2
5
.
1
 
=
 
0
 
t
h
e
n


 
 
 
 
(
0
,
 
(
t
_
2
5
.
2
.
2
.
1
,
 
t
_
2
5
.
2
.
2
.
2
.
1
,
 
t
_
2
5
.
2
.
2
.
2
.
2
.
1
,
 
t
_
2
5
.
2
.
2
.
2
.
2
.
2
.
1
,
 
t
_
2
5
.
2
.
2
.
2
.
2
.
2
.
2
,
 
(
v
p
_
u
p
d
L
 
g
g
 
(
0
 
:
 
I
n
t
3
2
)
.
t
o
N
a
t
C
l
a
m
p
N
e
g
 
(
t
_
2
5
.
2
.
1
.
t
o
I
n
t
6
4
)
)
)
)


 
 
e
l
s
e


 
 
 
 
(
1
,
 
(
b
k
s
m
,
 
s
t
s
m
,
 
w
d
g
r
,
 
s
t
g
r
,
 
X
a
n
s
,
 
g
g
)
)


d
e
f
 
F
_
L
_
t
o
l
d
_
e
 
(
g
i
v
e
n
 
:
 
I
n
t
3
2
)
 
(
p
e
r
m
 
:
 
I
n
t
3
2
)
 
(
X
t
a
p
e
 
:
 
g
R
o
w
)
 
(
X
c
o
l
 
:
 
g
R
o
w
)
 
(
X
a
n
s
 
:
 
g
R
o
w
)
 
(
g
g
 
:
 
N
a
t
 
→
 
I
n
t
6
4
)
 
(
v
i
 
:
 
I
n
t
3
2
)
 
:
 
I
n
t
3
2
 
×
 
(
N
a
t
 
→
 
I
n
t
6
4
)
 
:
=


 
 
g
L
e
t
 
(
F
_
X
1
0
_
t
o
l
d
_
e
 
g
i
v
e
n
 
p
e
r
m
 
X
t
a
p
e
 
X
c
o
l
 
X
a
n
s
 
v
i
)
 
f
u
n
 
t
_
2
5
 
=
>


 
 
i
f
 
t
_
2
5
.
1
 
=
 
0
 
t
h
e
n


 
 
 
 
(
0
,
 
(
v
p
_
u
p
d
L
 
g
g
 
(
0
 
:
 
I
n
t
3
2
)
.
t
o
N
a
t
C
l
a
m
p
N
e
g
 
(
t
_
2
5
.
2
.
t
o
I
n
t
6
4
)
)
)


 
 
e
l
s
e


 
 
 
 
(
1
,
 
g
g
)


d
e
f
 
F
_
L
_
w
o
r
d
_
l
 
(
X
u
s
e
r
 
:
 
g
R
o
w
)
 
(
X
o
w
n
e
r
 
:
 
g
R
o
w
)
 
(
g
g
 
:
 
N
a
t
 
→
 
I
n
t
6
4
)
 
(
v
c
 
:
 
I
n
t
3
2
)
 
(
o
w
n
 
:
 
I
n
t
3
2
)
 
:
 
I
n
t
3
2
 
×
 
(
g
R
o
w
 
×
 
g
R
o
w
 
×
 
(
N
a
t
 
→
 
I
n
t
6
4
)
)
 
:
=


 
 
g
L
e
t
 
(
F
_
X
1
0
_
w
o
r
d
_
l
 
X
u
s
e
r
 
X
o
w
n
e
r
 
v
c
 
o
w
n
)
 
f
u
n
 
t
_
2
5
 
=
>


 
 
i
f
 
t
_
2
5
.
1
 
=
 
0
 
t
h
e
n


 
 
 
 
(
0
,
 
(
t
_
2
5
.
2
.
2
.
1
,
 
t
_
2
5
.
2
.
2
.
2
,
 
(
v
p
_
u
p
d
L
 
g
g
 
(
0
 
:
 
I
n
t
3
2
)
.
t
o
N
a
t
C
l
a
m
p
N
e
g
 
(
t
_
2
5
.
2
.
1
.
t
o
I
n
t
6
4
)
)
)
)


 
 
e
l
s
e


 
 
 
 
(
1
,
 
(
X
u
s
e
r
,
 
X
o
w
n
e
r
,
 
g
g
)
)


d
e
f
 
F
_
L
_
i
d
_
l
 
(
X
i
d
e
n
t
 
:
 
g
R
o
w
)
 
(
v
b
 
:
 
I
n
t
3
2
)
 
:
 
I
n
t
3
2
 
×
 
(
g
R
o
w
)
 
:
=


 
 
g
L
e
t
 
(
F
_
X
1
0
_
i
d
_
l
 
X
i
d
e
n
t
 
v
b
)
 
f
u
n
 
t
_
2
3
 
=
>


 
 
i
f
 
t
_
2
3
.
1
 
=
 
0
 
t
h
e
n


 
 
 
 
(
0
,
 
t
_
2
3
.
2
)


 
 
e
l
s
e


 
 
 
 
(
1
,
 
X
i
d
e
n
t
)


d
e
f
 
F
_
L
_
t
a
p
e
_
l
 
(
X
t
a
p
e
 
:
 
g
R
o
w
)
 
(
g
g
 
:
 
N
a
t
 
→
 
I
n
t
6
4
)
 
(
v
w
 
:
 
I
n
t
3
2
)
 
:
 
I
n
t
3
2
 
×
 
(
g
R
o
w
 
×
 
(
N
a
t
 
→
 
I
n
t
6
4
)
)
 
:
=


 
 
g
L
e
t
 
(
F
_
X
1
0
_
t
a
p
e
_
l
 
X
t
a
p
e
 
v
w
)
 
f
u
n
 
t
_
2
5
 
=
>


 
 
i
f
 
t
_
2
5
.
1
 
=
 
0
 
t
h
e
n


 
 
 
 
(
0
,
 
(
t
_
2
5
.
2
.
2
,
 
(
v
p
_
u
p
d
L
 
g
g
 
(
0
 
:
 
I
n
t
3
2
)
.
t
o
N
a
t
C
l
a
m
p
N
e
g
 
(
t
_
2
5
.
2
.
1
.
t
o
I
n
t
6
4
)
)
)
)


 
 
e
l
s
e


 
 
 
 
(
1
,
 
(
X
t
a
p
e
,
 
g
g
)
)


d
e
f
 
F
_
L
_
m
a
k
e
_
l
 
(
g
i
v
e
n
 
:
 
I
n
t
3
2
)
 
(
p
e
r
m
 
:
 
I
n
t
3
2
)
 
(
p
l
a
i
n
 
:
 
I
n
t
3
2
)
 
(
X
u
s
e
r
 
:
 
g
R
o
w
)
 
(
X
o
w
n
e
r
 
:
 
g
R
o
w
)
 
(
X
t
a
p
e
 
:
 
g
R
o
w
)
 
(
X
s
e
c
r
e
t
 
:
 
g
R
o
w
)
 
(
X
e
0
 
:
 
g
R
o
w
)
 
(
X
e
1
 
:
 
g
R
o
w
)
 
(
X
e
2
 
:
 
g
R
o
w
)
 
(
X
e
3
 
:
 
g
R
o
w
)
 
(
X
e
4
 
:
 
g
R
o
w
)
 
(
w
d
g
r
 
:
 
N
a
t
 
→
 
I
n
t
3
2
)
 
(
s
t
g
r
 
:
 
N
a
t
 
→
 
I
n
t
3
2
)
 
(
r
d
b
l
 
:
 
I
n
t
3
2
)
 
(
k
y
b
l
 
:
 
N
a
t
 
→
 
I
n
t
3
2
)
 
(
c
l
b
l
 
:
 
N
a
t
 
→
 
I
n
t
3
2
)
 
(
m
v
b
l
 
:
 
N
a
t
 
→
 
I
n
t
3
2
)
 
(
l
a
b
l
 
:
 
N
a
t
 
→
 
I
n
t
3
2
)
 
(
X
t
e
x
t
 
:
 
g
R
o
w
)
 
(
X
s
u
m
 
:
 
g
R
o
w
)
 
(
X
c
h
 
:
 
g
R
o
w
)
 
(
X
c
o
l
 
:
 
g
R
o
w
)
 
(
g
g
 
:
 
N
a
t
 
→
 
I
n
t
6
4
)
 
(
v
p
 
:
 
I
n
t
3
2
)
 
:
 
I
n
t
3
2
 
×
 
(
I
n
t
3
2
 
×
 
I
n
t
3
2
 
×
 
g
R
o
w
 
×
 
g
R
o
w
 
×
 
g
R
o
w
 
×
 
g
R
o
w
 
×
 
g
R
o
w
 
×
 
g
R
o
w
 
×
 
(
N
a
t
 
→
 
I
n
t
3
2
)
 
×
 
(
N
a
t
 
→
 
I
n
t
3
2
)
 
×
 
I
n
t
3
2
 
×
 
(
N
a
t
 
→
 
I
n
t
3
2
)
 
×
 
(
N
a
t
 
→
 
I
n
t
3
2
)
 
×
 
(
N
a
t
 
→
 
I
n
t
3
2
)
 
×
 
(
N
a
t
 
→
 
I
n
t
3
2
)
 
×
 
g
R
o
w
 
×
 
g
R
o
w
 
×
 
g
R
o
w
 
×
 
g
R
o
w
 
×
 
(
N
a
t
 
→
 
I
n
t
6
4
)
)
 
:
=


 
 
g
L
e
t
 
(
F
_
X
1
0
_
m
a
k
e
_
l
 
g
i
v
e
n
 
p
e
r
m
 
p
l
a
i
n
 
X
u
s
e
r
 
X
o
w
n
e
r
 
X
t
a
p
e
 
X
s
e
c
r
e
t
 
X
e
0
 
X
e
1
 
X
e
2
 
X
e
3
 
X
e
4
 
w
d
g
r
 
s
t
g
r
 
r
d
b
l
 
k
y
b
l
 
c
l
b
l
 
m
v
b
l
 
l
a
b
l
 
X
t
e
x
t
 
X
s
u
m
 
X
c
h
 
X
c
o
l
 
v
p
)
 
f
u
n
 
t
_
2
5
 
=
>


 
 
i
f
 
t
_
2
5
.
1
 
=
 
0
 
t
h
e
n


 
 
 
 
(
0
,
 
(
t
_
2
5
.
2
.
2
.
1
,
 
t
_
2
5
.
2
.
2
.
2
.
1
,
 
(
t
_
2
5
.
2
.
2
.
2
.
2
.
1
.
1
,
 
X
s
e
c
r
e
t
.
2
)
,
 
t
_
2
5
.
2
.
2
.
2
.
2
.
2
.
1
,
 
t
_
2
5
.
2
.
2
.
2
.
2
.
2
.
2
.
1
,
 
t
_
2
5
.
2
.
2
.
2
.
2
.
2
.
2
.
2
.
1
,
 
t
_
2
5
.
2
.
2
.
2
.
2
.
2
.
2
.
2
.
2
.
1
,
 
t
_
2
5
.
2
.
2
.
2
.
2
.
2
.
2
.
2
.
2
.
2
.
1
,
 
t
_
2
5
.
2
.
2
.
2
.
2
.
2
.
2
.
2
.
2
.
2
.
2
.
1
,
 
t
_
2
5
.
2
.
2
.
2
.
2
.
2
.
2
.
2
.
2
.
2
.
2
.
2
.
1
,
 
t
_
2
5
.
2
.
2
.
2
.
2
.
2
.
2
.
2
.
2
.
2
.
2
.
2
.
2
.
1
,
 
t
_
2
5
.
2
.
2
.
2
.
2
.
2
.
2
.
2
.
2
.
2
.
2
.
2
.
2
.
2
.
1
,
 
t
_
2
5
.
2
.
2
.
2
.
2
.
2
.
2
.
2
.
2
.
2
.
2
.
2
.
2
.
2
.
2
.
1
,
 
t
_
2
5
.
2
.
2
.
2
.
2
.
2
.
2
.
2
.
2
.
2
.
2
.
2
.
2
.
2
.
2
.
2
.
1
,
 
t
_
2
5
.
2
.
2
.
2
.
2
.
2
.
2
.
2
.
2
.
2
.
2
.
2
.
2
.
2
.
2
.
2
.
2
.
1
,
 
t
_
2
5
.
2
.
2
.
2
.
2
.
2
.
2
.
2
.
2
.
2
.
2
.
2
.
2
.
2
.
2
.
2
.
2
.
2
.
1
,
 
t
_
2
5
.
2
.
2
.
2
.
2
.
2
.
2
.
2
.
2
.
2
.
2
.
2
.
2
.
2
.
2
.
2
.
2
.
2
.
2
.
1
,
 
t
_
2
5
.
2
.
2
.
2
.
2
.
2
.
2
.
2
.
2
.
2
.
2
.
2
.
2
.
2
.
2
.
2
.
2
.
2
.
2
.
2
.
1
,
 
(
t
_
2
5
.
2
.
2
.
2
.
2
.
2
.
2
.
2
.
2
.
2
.
2
.
2
.
2
.
2
.
2
.
2
.
2
.
2
.
2
.
2
.
2
.
1
,
 
X
c
o
l
.
2
)
,
 
(
v
p
_
u
p
d
L
 
g
g
 
(
0
 
:
 
I
n
t
3
2
)
.
t
o
N
a
t
C
l
a
m
p
N
e
g
 
(
t
_
2
5
.
2
.
1
.
t
o
I
n
t
6
4
)
)
)
)


 
 
e
l
s
e


 
 
 
 
(
1
,
 
(
g
i
v
e
n
,
 
p
e
r
m
,
 
X
s
e
c
r
e
t
,
 
X
e
0
,
 
X
e
1
,
 
X
e
2
,
 
X
e
3
,
 
X
e
4
,
 
w
d
g
r
,
 
s
t
g
r
,
 
r
d
b
l
,
 
k
y
b
l
,
 
c
l
b
l
,
 
m
v
b
l
,
 
l
a
b
l
,
 
X
t
e
x
t
,
 
X
s
u
m
,
 
X
c
h
,
 
X
c
o
l
,
 
g
g
)
)


d
e
f
 
F
_
L
_
e
n
t
r
y
_
l
 
(
X
e
0
 
:
 
g
R
o
w
)
 
(
X
e
1
 
:
 
g
R
o
w
)
 
(
X
e
2
 
:
 
g
R
o
w
)
 
(
X
e
3
 
:
 
g
R
o
w
)
 
(
X
e
4
 
:
 
g
R
o
w
)
 
(
X
n
o
e
 
:
 
g
R
o
w
)
 
(
g
g
 
:
 
N
a
t
 
→
 
I
n
t
6
4
)
 
(
w
h
i
c
h
 
:
 
I
n
t
3
2
)
 
(
v
i
 
:
 
I
n
t
3
2
)
 
:
 
I
n
t
3
2
 
×
 
(
N
a
t
 
→
 
I
n
t
6
4
)
 
:
=


 
 
g
L
e
t
 
(
F
_
X
1
0
_
e
n
t
r
y
_
l
 
X
e
0
 
X
e
1
 
X
e
2
 
X
e
3
 
X
e
4
 
X
n
o
e
 
w
h
i
c
h
 
v
i
)
 
f
u
n
 
t
_
2
5
 
=
>


 
 
i
f
 
t
_
2
5
.
1
 
=
 
0
 
t
h
e
n


 
 
 
 
(
0
,
 
(
v
p
_
u
p
d
L
 
g
g
 
(
0
 
:
 
I
n
t
3
2
)
.
t
o
N
a
t
C
l
a
m
p
N
e
g
 
(
t
_
2
5
.
2
.
t
o
I
n
t
6
4
)
)
)


 
 
e
l
s
e


 
 
 
 
(
1
,
 
g
g
)


d
e
f
 
F
_
L
_
a
l
t
e
r
_
l
 
(
X
s
e
c
r
e
t
 
:
 
g
R
o
w
)
 
(
X
e
0
 
:
 
g
R
o
w
)
 
(
X
e
1
 
:
 
g
R
o
w
)
 
(
X
e
2
 
:
 
g
R
o
w
)
 
(
X
e
3
 
:
 
g
R
o
w
)
 
(
X
e
4
 
:
 
g
R
o
w
)
 
(
X
n
o
e
 
:
 
g
R
o
w
)
 
(
X
c
o
l
 
:
 
g
R
o
w
)
 
(
w
h
i
c
h
 
:
 
I
n
t
3
2
)
 
(
v
i
 
:
 
I
n
t
3
2
)
 
(
v
b
 
:
 
I
n
t
3
2
)
 
:
 
I
n
t
3
2
 
×
 
(
g
R
o
w
 
×
 
g
R
o
w
 
×
 
g
R
o
w
 
×
 
g
R
o
w
 
×
 
g
R
o
w
 
×
 
g
R
o
w
 
×
 
g
R
o
w
 
×
 
g
R
o
w
)
 
:
=


 
 
g
L
e
t
 
(
F
_
X
1
0
_
a
l
t
e
r
_
l
 
X
s
e
c
r
e
t
 
X
e
0
 
X
e
1
 
X
e
2
 
X
e
3
 
X
e
4
 
X
n
o
e
 
X
c
o
l
 
w
h
i
c
h
 
v
i
 
v
b
)
 
f
u
n
 
t
_
2
3
 
=
>


 
 
i
f
 
t
_
2
3
.
1
 
=
 
0
 
t
h
e
n


 
 
 
 
(
0
,
 
(
(
t
_
2
3
.
2
.
1
.
1
,
 
X
s
e
c
r
e
t
.
2
)
,
 
t
_
2
3
.
2
.
2
.
1
,
 
t
_
2
3
.
2
.
2
.
2
.
1
,
 
t
_
2
3
.
2
.
2
.
2
.
2
.
1
,
 
t
_
2
3
.
2
.
2
.
2
.
2
.
2
.
1
,
 
t
_
2
3
.
2
.
2
.
2
.
2
.
2
.
2
.
1
,
 
t
_
2
3
.
2
.
2
.
2
.
2
.
2
.
2
.
2
.
1
,
 
(
t
_
2
3
.
2
.
2
.
2
.
2
.
2
.
2
.
2
.
2
.
1
,
 
X
c
o
l
.
2
)
)
)


 
 
e
l
s
e


 
 
 
 
(
1
,
 
(
X
s
e
c
r
e
t
,
 
X
e
0
,
 
X
e
1
,
 
X
e
2
,
 
X
e
3
,
 
X
e
4
,
 
X
n
o
e
,
 
X
c
o
l
)
)


d
e
f
 
F
_
L
_
o
p
e
n
_
l
 
(
X
t
r
i
e
d
 
:
 
g
R
o
w
)
 
(
X
s
e
c
r
e
t
 
:
 
g
R
o
w
)
 
(
X
e
0
 
:
 
g
R
o
w
)
 
(
X
e
1
 
:
 
g
R
o
w
)
 
(
X
e
2
 
:
 
g
R
o
w
)
 
(
X
e
3
 
:
 
g
R
o
w
)
 
(
w
d
g
r
 
:
 
N
a
t
 
→
 
I
n
t
3
2
)
 
(
s
t
g
r
 
:
 
N
a
t
 
→
 
I
n
t
3
2
)
 
(
r
d
b
l
 
:
 
I
n
t
3
2
)
 
(
k
y
b
l
 
:
 
N
a
t
 
→
 
I
n
t
3
2
)
 
(
c
l
b
l
 
:
 
N
a
t
 
→
 
I
n
t
3
2
)
 
(
m
v
b
l
 
:
 
N
a
t
 
→
 
I
n
t
3
2
)
 
(
l
a
b
l
 
:
 
N
a
t
 
→
 
I
n
t
3
2
)
 
(
X
t
e
x
t
 
:
 
g
R
o
w
)
 
(
X
s
u
m
 
:
 
g
R
o
w
)
 
(
X
c
o
l
 
:
 
g
R
o
w
)
 
(
g
g
 
:
 
N
a
t
 
→
 
I
n
t
6
4
)
 
(
v
c
 
:
 
I
n
t
3
2
)
 
:
 
I
n
t
3
2
 
×
 
(
g
R
o
w
 
×
 
g
R
o
w
 
×
 
(
N
a
t
 
→
 
I
n
t
3
2
)
 
×
 
(
N
a
t
 
→
 
I
n
t
3
2
)
 
×
 
I
n
t
3
2
 
×
 
(
N
a
t
 
→
 
I
n
t
3
2
)
 
×
 
(
N
a
t
 
→
 
I
n
t
3
2
)
 
×
 
(
N
a
t
 
→
 
I
n
t
3
2
)
 
×
 
(
N
a
t
 
→
 
I
n
t
3
2
)
 
×
 
g
R
o
w
 
×
 
g
R
o
w
 
×
 
g
R
o
w
 
×
 
(
N
a
t
 
→
 
I
n
t
6
4
)
)
 
:
=


 
 
g
L
e
t
 
(
F
_
X
1
0
_
o
p
e
n
_
l
 
X
t
r
i
e
d
 
X
s
e
c
r
e
t
 
X
e
0
 
X
e
1
 
X
e
2
 
X
e
3
 
w
d
g
r
 
s
t
g
r
 
r
d
b
l
 
k
y
b
l
 
c
l
b
l
 
m
v
b
l
 
l
a
b
l
 
X
t
e
x
t
 
X
s
u
m
 
X
c
o
l
 
v
c
)
 
f
u
n
 
t
_
3
3
 
=
>


 
 
i
f
 
t
_
3
3
.
1
 
=
 
0
 
t
h
e
n


 
 
 
 
(
0
,
 
(
t
_
3
3
.
2
.
2
.
1
,
 
t
_
3
3
.
2
.
2
.
2
.
1
,
 
t
_
3
3
.
2
.
2
.
2
.
2
.
1
,
 
t
_
3
3
.
2
.
2
.
2
.
2
.
2
.
1
,
 
t
_
3
3
.
2
.
2
.
2
.
2
.
2
.
2
.
1
,
 
t
_
3
3
.
2
.
2
.
2
.
2
.
2
.
2
.
2
.
1
,
 
t
_
3
3
.
2
.
2
.
2
.
2
.
2
.
2
.
2
.
2
.
1
,
 
t
_
3
3
.
2
.
2
.
2
.
2
.
2
.
2
.
2
.
2
.
2
.
1
,
 
t
_
3
3
.
2
.
2
.
2
.
2
.
2
.
2
.
2
.
2
.
2
.
2
.
1
,
 
t
_
3
3
.
2
.
2
.
2
.
2
.
2
.
2
.
2
.
2
.
2
.
2
.
2
.
1
,
 
t
_
3
3
.
2
.
2
.
2
.
2
.
2
.
2
.
2
.
2
.
2
.
2
.
2
.
2
.
1
,
 
(
t
_
3
3
.
2
.
2
.
2
.
2
.
2
.
2
.
2
.
2
.
2
.
2
.
2
.
2
.
2
.
1
,
 
X
c
o
l
.
2
)
,
 
(
v
p
_
u
p
d
L
 
g
g
 
(
0
 
:
 
I
n
t
3
2
)
.
t
o
N
a
t
C
l
a
m
p
N
e
g
 
(
t
_
3
3
.
2
.
1
.
t
o
I
n
t
6
4
)
)
)
)


 
 
e
l
s
e


 
 
 
 
i
f
 
t
_
3
3
.
1
 
=
 
2
 
t
h
e
n


 
 
 
 
 
 
(
1
,
 
(
X
t
r
i
e
d
,
 
X
s
e
c
r
e
t
,
 
w
d
g
r
,
 
s
t
g
r
,
 
r
d
b
l
,
 
k
y
b
l
,
 
c
l
b
l
,
 
m
v
b
l
,
 
l
a
b
l
,
 
X
t
e
x
t
,
 
X
s
u
m
,
 
X
c
o
l
,
 
g
g
)
)


 
 
 
 
e
l
s
e


 
 
 
 
 
 
i
f
 
t
_
3
3
.
1
 
=
 
3
 
t
h
e
n


 
 
 
 
 
 
 
 
(
2
,
 
(
X
t
r
i
e
d
,
 
X
s
e
c
r
e
t
,
 
w
d
g
r
,
 
s
t
g
r
,
 
r
d
b
l
,
 
k
y
b
l
,
 
c
l
b
l
,
 
m
v
b
l
,
 
l
a
b
l
,
 
X
t
e
x
t
,
 
X
s
u
m
,
 
X
c
o
l
,
 
g
g
)
)


 
 
 
 
 
 
e
l
s
e


 
 
 
 
 
 
 
 
(
3
,
 
(
X
t
r
i
e
d
,
 
X
s
e
c
r
e
t
,
 
w
d
g
r
,
 
s
t
g
r
,
 
r
d
b
l
,
 
k
y
b
l
,
 
c
l
b
l
,
 
m
v
b
l
,
 
l
a
b
l
,
 
X
t
e
x
t
,
 
X
s
u
m
,
 
X
c
o
l
,
 
g
g
)
)


d
e
f
 
F
_
L
_
k
e
y
_
l
 
(
f
i
l
t
 
:
 
I
n
t
3
2
)
 
(
X
s
e
c
r
e
t
 
:
 
g
R
o
w
)
 
(
X
a
n
s
 
:
 
g
R
o
w
)
 
(
g
g
 
:
 
N
a
t
 
→
 
I
n
t
6
4
)
 
:
 
I
n
t
3
2
 
×
 
(
g
R
o
w
 
×
 
(
N
a
t
 
→
 
I
n
t
6
4
)
)
 
:
=


 
 
g
L
e
t
 
(
F
_
X
1
0
_
k
e
y
_
l
 
f
i
l
t
 
X
s
e
c
r
e
t
 
X
a
n
s
)
 
f
u
n
 
t
_
2
5
 
=
>


 
 
i
f
 
t
_
2
5
.
1
 
=
 
0
 
t
h
e
n


 
 
 
 
(
0
,
 
(
t
_
2
5
.
2
.
2
,
 
(
v
p
_
u
p
d
L
 
g
g
 
(
0
 
:
 
I
n
t
3
2
)
.
t
o
N
a
t
C
l
a
m
p
N
e
g
 
(
t
_
2
5
.
2
.
1
.
t
o
I
n
t
6
4
)
)
)
)


 
 
e
l
s
e


 
 
 
 
(
1
,
 
(
X
a
n
s
,
 
g
g
)
)


d
e
f
 
F
_
L
_
f
i
l
t
e
r
_
l
 
(
f
i
l
t
 
:
 
I
n
t
3
2
)
 
(
g
g
 
:
 
N
a
t
 
→
 
I
n
t
6
4
)
 
(
k
i
n
d
 
:
 
I
n
t
3
2
)
 
:
 
I
n
t
3
2
 
×
 
(
I
n
t
3
2
 
×
 
(
N
a
t
 
→
 
I
n
t
6
4
)
)
 
:
=


 
 
g
L
e
t
 
(
F
_
X
1
0
_
f
i
l
t
e
r
_
l
 
f
i
l
t
 
k
i
n
d
)
 
f
u
n
 
t
_
2
5
 
=
>


 
 
i
f
 
t
_
2
5
.
1
 
=
 
0
 
t
h
e
n


 
 
 
 
(
0
,
 
(
t
_
2
5
.
2
.
2
,
 
(
v
p
_
u
p
d
L
 
g
g
 
(
0
 
:
 
I
n
t
3
2
)
.
t
o
N
a
t
C
l
a
m
p
N
e
g
 
(
t
_
2
5
.
2
.
1
.
t
o
I
n
t
6
4
)
)
)
)


 
 
e
l
s
e


 
 
 
 
(
1
,
 
(
f
i
l
t
,
 
g
g
)
)


d
e
f
 
F
_
L
_
a
p
p
l
y
_
l
 
(
c
f
o
r
 
:
 
I
n
t
3
2
)
 
(
c
b
a
c
k
 
:
 
I
n
t
3
2
)
 
(
X
s
e
c
r
e
t
 
:
 
g
R
o
w
)
 
(
X
c
o
l
 
:
 
g
R
o
w
)
 
(
g
g
 
:
 
N
a
t
 
→
 
I
n
t
6
4
)
 
(
n
u
m
b
e
r
 
:
 
I
n
t
3
2
)
 
(
b
a
c
k
 
:
 
I
n
t
3
2
)
 
(
v
b
 
:
 
I
n
t
3
2
)
 
:
 
I
n
t
3
2
 
×
 
(
I
n
t
3
2
 
×
 
I
n
t
3
2
 
×
 
g
R
o
w
 
×
 
(
N
a
t
 
→
 
I
n
t
6
4
)
)
 
:
=


 
 
g
L
e
t
 
(
F
_
X
1
0
_
a
p
p
l
y
_
l
 
c
f
o
r
 
c
b
a
c
k
 
X
s
e
c
r
e
t
 
X
c
o
l
 
n
u
m
b
e
r
 
b
a
c
k
 
v
b
)
 
f
u
n
 
t
_
2
9
 
=
>


 
 
i
f
 
t
_
2
9
.
1
 
=
 
0
 
t
h
e
n


 
 
 
 
(
0
,
 
(
t
_
2
9
.
2
.
2
.
1
,
 
t
_
2
9
.
2
.
2
.
2
.
1
,
 
t
_
2
9
.
2
.
2
.
2
.
2
,
 
(
v
p
_
u
p
d
L
 
g
g
 
(
0
 
:
 
I
n
t
3
2
)
.
t
o
N
a
t
C
l
a
m
p
N
e
g
 
(
t
_
2
9
.
2
.
1
.
t
o
I
n
t
6
4
)
)
)
)


 
 
e
l
s
e


 
 
 
 
i
f
 
t
_
2
9
.
1
 
=
 
3
 
t
h
e
n


 
 
 
 
 
 
(
1
,
 
(
c
f
o
r
,
 
c
b
a
c
k
,
 
X
c
o
l
,
 
g
g
)
)


 
 
 
 
e
l
s
e


 
 
 
 
 
 
(
2
,
 
(
c
f
o
r
,
 
c
b
a
c
k
,
 
X
c
o
l
,
 
g
g
)
)


d
e
f
 
F
_
L
_
o
u
t
_
l
 
(
X
a
n
s
 
:
 
g
R
o
w
)
 
(
g
g
 
:
 
N
a
t
 
→
 
I
n
t
6
4
)
 
(
v
i
 
:
 
I
n
t
3
2
)
 
:
 
I
n
t
3
2
 
×
 
(
N
a
t
 
→
 
I
n
t
6
4
)
 
:
=


 
 
g
L
e
t
 
(
F
_
X
1
0
_
o
u
t
_
l
 
X
a
n
s
 
v
i
)
 
f
u
n
 
t
_
2
5
 
=
>


 
 
i
f
 
t
_
2
5
.
1
 
=
 
0
 
t
h
e
n


 
 
 
 
(
0
,
 
(
v
p
_
u
p
d
L
 
g
g
 
(
0
 
:
 
I
n
t
3
2
)
.
t
o
N
a
t
C
l
a
m
p
N
e
g
 
(
t
_
2
5
.
2
.
t
o
I
n
t
6
4
)
)
)


 
 
e
l
s
e


 
 
 
 
(
1
,
 
g
g
)


d
e
f
 
F
_
L
_
d
i
g
e
s
t
_
l
 
(
b
k
s
m
 
:
 
N
a
t
 
→
 
I
n
t
3
2
)
 
(
s
t
s
m
 
:
 
N
a
t
 
→
 
I
n
t
3
2
)
 
(
w
d
g
r
 
:
 
N
a
t
 
→
 
I
n
t
3
2
)
 
(
s
t
g
r
 
:
 
N
a
t
 
→
 
I
n
t
3
2
)
 
(
X
c
o
l
 
:
 
g
R
o
w
)
 
(
X
a
n
s
 
:
 
g
R
o
w
)
 
(
g
g
 
:
 
N
a
t
 
→
 
I
n
t
6
4
)
 
(
k
i
n
d
 
:
 
I
n
t
3
2
)
 
:
 
I
n
t
3
2
 
×
 
(
(
N
a
t
 
→
 
I
n
t
3
2
)
 
×
 
(
N
a
t
 
→
 
I
n
t
3
2
)
 
×
 
(
N
a
t
 
→
 
I
n
t
3
2
)
 
×
 
(
N
a
t
 
→
 
I
n
t
3
2
)
 
×
 
g
R
o
w
 
×
 
(
N
a
t
 
→
 
I
n
t
6
4
)
)
 
:
=


 
 
g
L
e
t
 
(
F
_
X
1
0
_
d
i
g
e
s
t
_
l
 
b
k
s
m
 
s
t
s
m
 
w
d
g
r
 
s
t
g
r
 
X
c
o
l
 
X
a
n
s
 
k
i
n
d
)
 
f
u
n
 
t
_
2
5
 
=
>


 
 
i
f
 
t
_
2
5
.
1
 
=
 
0
 
t
h
e
n


 
 
 
 
(
0
,
 
(
t
_
2
5
.
2
.
2
.
1
,
 
t
_
2
5
.
2
.
2
.
2
.
1
,
 
t
_
2
5
.
2
.
2
.
2
.
2
.
1
,
 
t
_
2
5
.
2
.
2
.
2
.
2
.
2
.
1
,
 
t
_
2
5
.
2
.
2
.
2
.
2
.
2
.
2
,
 
(
v
p
_
u
p
d
L
 
g
g
 
(
0
 
:
 
I
n
t
3
2
)
.
t
o
N
a
t
C
l
a
m
p
N
e
g
 
(
t
_
2
5
.
2
.
1
.
t
o
I
n
t
6
4
)
)
)
)


 
 
e
l
s
e


 
 
 
 
(
1
,
 
(
b
k
s
m
,
 
s
t
s
m
,
 
w
d
g
r
,
 
s
t
g
r
,
 
X
a
n
s
,
 
g
g
)
)


d
e
f
 
F
_
L
_
t
o
l
d
_
l
 
(
g
i
v
e
n
 
:
 
I
n
t
3
2
)
 
(
p
e
r
m
 
:
 
I
n
t
3
2
)
 
(
X
t
a
p
e
 
:
 
g
R
o
w
)
 
(
X
s
e
c
r
e
t
 
:
 
g
R
o
w
)
 
(
X
e
4
 
:
 
g
R
o
w
)
 
(
r
d
b
l
 
:
 
I
n
t
3
2
)
 
(
k
y
b
l
 
:
 
N
a
t
 
→
 
I
n
t
3
2
)
 
(
c
l
b
l
 
:
 
N
a
t
 
→
 
I
n
t
3
2
)
 
(
m
v
b
l
 
:
 
N
a
t
 
→
 
I
n
t
3
2
)
 
(
l
a
b
l
 
:
 
N
a
t
 
→
 
I
n
t
3
2
)
 
(
X
t
e
x
t
 
:
 
g
R
o
w
)
 
(
X
c
o
l
 
:
 
g
R
o
w
)
 
(
X
a
n
s
 
:
 
g
R
o
w
)
 
(
g
g
 
:
 
N
a
t
 
→
 
I
n
t
6
4
)
 
(
v
i
 
:
 
I
n
t
3
2
)
 
:
 
I
n
t
3
2
 
×
 
(
I
n
t
3
2
 
×
 
(
N
a
t
 
→
 
I
n
t
3
2
)
 
×
 
(
N
a
t
 
→
 
I
n
t
3
2
)
 
×
 
(
N
a
t
 
→
 
I
n
t
3
2
)
 
×
 
(
N
a
t
 
→
 
I
n
t
3
2
)
 
×
 
g
R
o
w
 
×
 
(
N
a
t
 
→
 
I
n
t
6
4
)
)
 
:
=


 
 
g
L
e
t
 
(
F
_
X
1
0
_
t
o
l
d
_
l
 
g
i
v
e
n
 
p
e
r
m
 
X
t
a
p
e
 
X
s
e
c
r
e
t
 
X
e
4
 
r
d
b
l
 
k
y
b
l
 
c
l
b
l
 
m
v
b
l
 
l
a
b
l
 
X
t
e
x
t
 
X
c
o
l
 
X
a
n
s
 
v
i
)
 
f
u
n
 
t
_
2
5
 
=
>


 
 
i
f
 
t
_
2
5
.
1
 
=
 
0
 
t
h
e
n


 
 
 
 
(
0
,
 
(
t
_
2
5
.
2
.
2
.
1
,
 
t
_
2
5
.
2
.
2
.
2
.
1
,
 
t
_
2
5
.
2
.
2
.
2
.
2
.
1
,
 
t
_
2
5
.
2
.
2
.
2
.
2
.
2
.
1
,
 
t
_
2
5
.
2
.
2
.
2
.
2
.
2
.
2
.
1
,
 
t
_
2
5
.
2
.
2
.
2
.
2
.
2
.
2
.
2
,
 
(
v
p
_
u
p
d
L
 
g
g
 
(
0
 
:
 
I
n
t
3
2
)
.
t
o
N
a
t
C
l
a
m
p
N
e
g
 
(
t
_
2
5
.
2
.
1
.
t
o
I
n
t
6
4
)
)
)
)


 
 
e
l
s
e


 
 
 
 
(
1
,
 
(
r
d
b
l
,
 
k
y
b
l
,
 
c
l
b
l
,
 
m
v
b
l
,
 
l
a
b
l
,
 
X
t
e
x
t
,
 
g
g
)
)


